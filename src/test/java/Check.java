/** Counts and prints the calls whose answer is not the one that is due. */
final class Check {
    interface Call {
        void run();
    }

    private static int wrong = 0;

    private Check() {
    }

    static void due(String call, long got, long want) {
        if (got != want) {
            wrong++;
            System.out.println(call + " answered " + got + ", due is " + want);
        }
    }

    static void due(String call, boolean got, boolean want) {
        due(call, got ? 1 : 0, want ? 1 : 0);
    }

    static void due(String call, String got, String want) {
        if (!got.equals(want)) {
            wrong++;
            System.out.println(call + " answered " + got + ", due is " + want);
        }
    }

    static void index(String call, Call body) {
        dueThrow(call, body, IndexOutOfBoundsException.class);
    }

    static void argument(String call, Call body) {
        dueThrow(call, body, IllegalArgumentException.class);
    }

    static void unsupported(String call, Call body) {
        dueThrow(call, body, UnsupportedOperationException.class);
    }

    private static void dueThrow(String call, Call body, Class<?> want) {
        String got = "nothing";
        try {
            body.run();
        } catch (RuntimeException e) {
            got = e.getClass().getName();
        }
        due(call + " throws", got, want.getName());
    }

    /** What an object shows of itself: to see that a call that throws changed nothing. */
    static String state(GenericRegions x) {
        StringBuilder all = new StringBuilder();
        for (int what = 0; what <= 8; what++) {
            all.append(x.told(what)).append(' ');
        }
        all.append(x.copies()).append(' ').append(toldBits(x)).append(' ');
        for (int what = 1; what <= 2; what++) {
            for (int i = 0; i < x.told(4); i++) {
                all.append(x.bit(i, what)).append(',');
            }
        }
        for (int y = 0; y < x.told(1); y++) {
            for (int i = 0; i < x.told(0); i++) {
                all.append(' ').append(x.at(i, y) ? 1 : 0).append(x.got(i, y) ? 1 : 0).append(x.context(i, y));
            }
        }
        return all.toString();
    }

    static String toldBits(GenericRegions x) {
        StringBuilder bits = new StringBuilder();
        for (int i = 0; i < x.told(4); i++) {
            bits.append(x.bit(i, 0));
        }
        return bits.toString();
    }

    static String tell(GenericRegions x) {
        x.tell();
        return toldBits(x);
    }

    static void feed(GenericRegions x, String bits) {
        for (int i = 0; i < bits.length(); i++) {
            if (bits.charAt(i) != ' ') {
                x.feed(bits.charAt(i) - '0');
            }
        }
    }

    /** Row y as it was read, the leftmost sample first, black as #. */
    static String gotRow(GenericRegions x, int y) {
        StringBuilder row = new StringBuilder();
        for (int i = 0; i < x.told(0); i++) {
            row.append(x.got(i, y) ? '#' : '.');
        }
        return row.toString();
    }

    /** Rows of a region as text, black as #. */
    static GenericRegions region(int template, String... rows) {
        GenericRegions x = new GenericRegions(rows[0].length(), rows.length, template);
        for (int y = 0; y < rows.length; y++) {
            for (int i = 0; i < rows[y].length(); i++) {
                x.put(i, y, rows[y].charAt(i) == '#');
            }
        }
        return x;
    }

    static void end() {
        System.out.println(wrong == 0 ? "all answers are as due" : wrong + " answers are not as due");
        if (wrong != 0) {
            System.exit(1);
        }
    }
}
