/** Counts and prints the calls whose answer is not the one that is due. */
final class Check {
    interface Call {
        void run();
    }

    private static int wrong = 0;
    private static String sentence = "";

    private Check() {
    }

    /** The words of the document that the checks from here on are about, printed with a wrong answer. */
    static void sentence(int promise, String words) {
        sentence = "promise " + promise + ", '" + words + "': ";
    }

    static void due(String call, long got, long want) {
        if (got != want) {
            isWrong(call, String.valueOf(got), String.valueOf(want));
        }
    }

    static void due(String call, boolean got, boolean want) {
        due(call, got ? 1 : 0, want ? 1 : 0);
    }

    static void due(String call, String got, String want) {
        if (!got.equals(want)) {
            isWrong(call, got, want);
        }
    }

    private static void isWrong(String call, String got, String want) {
        wrong++;
        System.out.println(sentence + call + " answered " + got + ", due is " + want);
    }

    static void index(String call, Call body) {
        dueThrow(call, body, IndexOutOfBoundsException.class);
    }

    static void argument(String call, Call body) {
        dueThrow(call, body, IllegalArgumentException.class);
    }

    static void unsupported(String call, Call body) {
        dueThrow(call, body, UnsupportedOperationException.class);
    }

    private static void dueThrow(String call, Call body, Class<?> want) {
        String got = "nothing";
        try {
            body.run();
        } catch (RuntimeException e) {
            got = e.getClass().getName();
        }
        due(call + " throws", got, want.getName());
    }

    /** What an object shows of itself: to see that a call that throws changed nothing. */
    static String state(GenericRegions x) {
        StringBuilder all = new StringBuilder();
        for (int what = 0; what <= 8; what++) {
            all.append(x.told(what)).append(' ');
        }
        all.append(x.copies()).append(' ').append(toldBits(x)).append(' ');
        for (int what = 1; what <= 2; what++) {
            for (int i = 0; i < x.told(4); i++) {
                all.append(x.bit(i, what)).append(',');
            }
        }
        for (int y = 0; y < x.told(1); y++) {
            for (int i = 0; i < x.told(0); i++) {
                all.append(' ').append(x.at(i, y) ? 1 : 0).append(x.got(i, y) ? 1 : 0).append(x.context(i, y));
            }
        }
        return all.toString();
    }

    /** All that an object shows, and what it does afterwards: the object is used up by it. */
    static String future(GenericRegions x) {
        StringBuilder all = new StringBuilder(state(x));
        all.append(passOne(x)).append(x.read()).append(state(x));
        all.append(x.tell()).append(state(x)).append(x.begin());
        all.append(x.pass(6000)).append(x.read()).append(state(x));
        for (int kind = 0; kind <= 2; kind++) {
            all.append(x.way(kind, true)).append(x.tell()).append(state(x)).append(x.way(kind, false));
        }
        // a region with black in it shows where the loose places are
        for (int y = 0; y < x.told(1); y++) {
            all.append(x.row(y, 0x5a3c96 >> y));
        }
        return all.append(x.tell()).append(state(x)).toString();
    }

    private static String passOne(GenericRegions x) {
        return x.told(5) == 6000 ? "full" : String.valueOf(x.pass(1));
    }

    static String toldBits(GenericRegions x) {
        StringBuilder bits = new StringBuilder();
        for (int i = 0; i < x.told(4); i++) {
            bits.append(x.bit(i, 0));
        }
        return bits.toString();
    }

    static String tell(GenericRegions x) {
        x.tell();
        return toldBits(x);
    }

    static void feed(GenericRegions x, String bits) {
        for (int i = 0; i < bits.length(); i++) {
            if (bits.charAt(i) != ' ') {
                x.feed(bits.charAt(i) - '0');
            }
        }
    }

    /** Row y as it was read, the leftmost sample first, black as #. */
    static String gotRow(GenericRegions x, int y) {
        StringBuilder row = new StringBuilder();
        for (int i = 0; i < x.told(0); i++) {
            row.append(x.got(i, y) ? '#' : '.');
        }
        return row.toString();
    }

    /** Rows of a region as text, black as #. */
    static GenericRegions region(int template, String... rows) {
        GenericRegions x = new GenericRegions(rows[0].length(), rows.length, template);
        for (int y = 0; y < rows.length; y++) {
            for (int i = 0; i < rows[y].length(); i++) {
                x.put(i, y, rows[y].charAt(i) == '#');
            }
        }
        return x;
    }

    /** The bits told (0), their contexts (1) or rows (2), with blanks between. */
    static String column(GenericRegions x, int what) {
        StringBuilder all = new StringBuilder();
        for (int i = 0; i < x.told(4); i++) {
            all.append(i == 0 ? "" : " ").append(x.bit(i, what));
        }
        return all.toString();
    }

    static void skipAll(GenericRegions x, int y) {
        for (int i = 0; i < x.told(0); i++) {
            x.skip(i, y, true);
        }
    }

    /** An object to which as many bits came as may come. */
    static GenericRegions full() {
        GenericRegions x = new GenericRegions(24, 24, 0);
        for (int came = 0; came < 6000; came += 576) {
            x.tell();
            x.pass(Math.min(576, 6000 - came));
        }
        return x;
    }

    static void end() {
        System.out.println(wrong == 0 ? "all answers are as due" : wrong + " answers are not as due");
        if (wrong != 0) {
            System.exit(1);
        }
    }
}
