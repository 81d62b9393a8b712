/** Promises 9 to 11 at their boundaries: a test for each sentence that names one. */
public final class BoundaryTellTest {
    private static final int MIN = Integer.MIN_VALUE;
    private static final int MAX = Integer.MAX_VALUE;
    private static final int[] TYPICAL = {39717, 1941, 229, 405};

    private BoundaryTellTest() {
    }

    public static void main(String[] args) {
        fewestAndMost();
        skippedRows();
        skippedIsTold();
        fromTheLeft();
        typicalFirstRow();
        typicalTurns();
        typicalContexts();
        typicalCopyIsNoMore();
        typicalSkips();
        openEnds();
        openOfNoBits();
        faxHasNoSkips();
        faxHasNoTypicalRows();
        faxContexts();
        faxOfOneSample();
        faxFirstRow();
        faxPass();
        faxNear();
        faxFar();
        faxB1();
        faxNumbersFrom();
        faxA2();
        faxNumber();
        faxLongest();
        tellAgain();

        bitNoSuchBit();
        bitAnotherWhat();
        bitFirstOfTwo();
        bitToldLast();
        bitRowOfTheLast();

        copiesNoneAndAll();
        copiesAboveTheFirst();
        copiesOfWhatWasToldLast();
        copiesInOtherWays();
        Check.end();
    }

    private static GenericRegions made(int width, int height, int template) {
        return new GenericRegions(width, height, template);
    }

    /** The bits of one row, told by fax. */
    private static String bitsOfRow(GenericRegions x, int y) {
        StringBuilder bits = new StringBuilder();
        for (int i = 0; i < x.told(4); i++) {
            if (x.bit(i, 2) == y) {
                bits.append(x.bit(i, 0));
            }
        }
        return bits.toString();
    }

    private static void fewestAndMost() {
        Check.sentence(9, "The region is told: how many bits");
        Check.due("1 x 1", made(1, 1, 0).tell(), 1);
        Check.due("24 x 1", made(24, 1, 0).tell(), 24);
        Check.due("1 x 24", made(1, 24, 0).tell(), 24);
        Check.due("24 x 24", made(24, 24, 0).tell(), 576);
        GenericRegions x = made(24, 24, 0);
        x.way(2, true);
        Check.due("24 x 24, open", x.tell(), 576 + 25);
        x.way(0, true);
        Check.due("24 x 24, all copies, open", x.tell(), 24 + 25);
        for (int y = 0; y < 24; y++) {
            x.row(y, y % 2 == 0 ? -1 : 0);
        }
        Check.due("24 x 24, no copies, open", x.tell(), 24 + 576 + 25);
        Check.due("as many as are told", x.told(4), 24 + 576 + 25);
        Check.due("the last one", x.bit(24 + 576 + 24, 0), 1);
    }

    private static void skippedRows() {
        Check.sentence(9, "each sample that is not skipped: its bit");
        GenericRegions x = Check.region(0, "##", "##", "##");
        Check.skipAll(x, 1);
        Check.due("a row of no bits", Check.tell(x), "1111");
        Check.due("rows", Check.column(x, 2), "0 0 2 2");
        Check.skipAll(x, 0);
        Check.skipAll(x, 2);
        Check.due("a region of no bits", x.tell(), 0);
        Check.due("told(4)", x.told(4), 0);
        Check.due("nothing to pass", x.pass(MAX), 0);
        x.skip(1, 2, false);
        Check.due("the last sample alone", Check.tell(x), "1");
        Check.due("its row", x.bit(0, 2), 2);
        Check.due("its context", x.bit(0, 1), 0);
    }

    private static void skippedIsTold() {
        Check.sentence(9, "A sample that is skipped is told as white");
        GenericRegions x = Check.region(2, "###");
        x.skip(1, 0, true);
        Check.due("bits", Check.tell(x), "11");
        Check.due("contexts", Check.column(x, 1), "0 2");
    }

    private static void fromTheLeft() {
        Check.sentence(9, "A ROW is told from the left");
        GenericRegions x = made(24, 2, 0);
        x.row(0, 1);
        x.row(1, 1 << 23);
        Check.due("bits", Check.tell(x), "1" + "0".repeat(46) + "1");
    }

    private static void typicalFirstRow() {
        Check.sentence(9, "1, if the row is a copy while the one before is none, or the other way round"
            + " (before the first: none); above the first: white");
        GenericRegions white = Check.region(0, "..");
        white.way(0, true);
        Check.due("the first row white", Check.tell(white), "1");
        GenericRegions black = Check.region(0, ".#");
        black.way(0, true);
        Check.due("the first row not white", Check.tell(black), "001");
        GenericRegions one = made(1, 1, 3);
        one.way(0, true);
        Check.due("1 x 1 white", Check.tell(one), "1");
        one.put(0, 0, true);
        Check.due("1 x 1 black", Check.tell(one), "01");
        Check.due("contexts", Check.column(one, 1), "405 0");
    }

    private static void typicalTurns() {
        Check.sentence(9, "1, if the row is a copy while the one before is none, or the other way round");
        GenericRegions x = Check.region(0, "#", "#", "#", ".", "#", "#");
        x.way(0, true);
        // none, copy, copy, none, none, copy
        Check.due("bits", Check.tell(x), "01" + "1" + "0" + "10" + "01" + "1");
        Check.due("rows", Check.column(x, 2), "0 0 1 2 3 3 4 4 5");
    }

    private static void typicalContexts() {
        Check.sentence(9, "a bit with context 39717, 1941, 229 or 405 (for templates 0 to 3)");
        int[] templates = {MIN, 0, 1, 2, 3, MAX};
        int[] due = {TYPICAL[0], TYPICAL[0], TYPICAL[1], TYPICAL[2], TYPICAL[3], TYPICAL[3]};
        for (int i = 0; i < templates.length; i++) {
            GenericRegions x = made(1, 2, templates[i]);
            x.way(0, true);
            x.row(1, 1);
            x.tell();
            Check.due("contexts", Check.column(x, 1), due[i] + " " + due[i] + " 0");
        }
    }

    private static void typicalCopyIsNoMore() {
        Check.sentence(9, "a COPY is a row that is as the one above; of it nothing more is told");
        GenericRegions x = made(24, 24, 0);
        for (int y = 0; y < 24; y++) {
            x.row(y, 0x800001);
        }
        x.way(0, true);
        Check.due("bits", Check.tell(x), "01" + "0".repeat(22) + "1" + "1" + "0".repeat(22));
        x.put(23, 23, false);
        Check.due("one sample otherwise, the last", Check.tell(x),
            "01" + "0".repeat(22) + "1" + "1" + "0".repeat(21) + "11" + "0".repeat(23));
        x.put(23, 23, true);
        x.put(0, 23, false);
        Check.due("one sample otherwise, the first", Check.tell(x),
            "01" + "0".repeat(22) + "1" + "1" + "0".repeat(21) + "10" + "0".repeat(22) + "1");
    }

    private static void typicalSkips() {
        Check.sentence(9, "a COPY is a row that is as the one above: as they are told");
        GenericRegions x = Check.region(0, "#.", "##");
        x.way(0, true);
        x.skip(1, 1, true);
        Check.due("black, but skipped, below white", Check.tell(x), "010" + "1");
        Check.due("copies", x.copies(), 1);
        GenericRegions above = Check.region(0, "##", "#.");
        above.way(0, true);
        above.skip(1, 0, true);
        Check.due("white below black, but skipped", Check.tell(above), "01" + "1");
        GenericRegions first = Check.region(0, "##");
        first.way(0, true);
        Check.skipAll(first, 0);
        Check.due("the first row all skipped is as white", Check.tell(first), "1");
        GenericRegions none = Check.region(0, "##", "##");
        none.way(0, true);
        Check.skipAll(none, 1);
        Check.due("all skipped below black is no copy, and has no bit more", Check.tell(none), "011" + "0");
        Check.due("copies", none.copies(), 0);
    }

    private static void openEnds() {
        Check.sentence(9, "before each row a bit 0 with context 65536, behind the last a bit 1");
        GenericRegions one = Check.region(0, "#");
        one.way(2, true);
        Check.due("1 x 1", Check.tell(one), "011");
        Check.due("contexts", Check.column(one, 1), "65536 0 65536");
        Check.due("rows", Check.column(one, 2), "0 0 1");
        GenericRegions tall = made(1, 24, 0);
        tall.way(2, true);
        Check.due("1 x 24", Check.tell(tall), "00".repeat(24) + "1");
        tall.way(0, true);
        Check.due("with typical rows", Check.tell(tall), "01" + "00".repeat(23) + "1");
        Check.due("the bit before comes first", tall.bit(0, 1) + " " + tall.bit(1, 1), "65536 39717");
    }

    private static void openOfNoBits() {
        Check.sentence(9, "OPEN: before each row a bit, also before one of no bits");
        GenericRegions x = Check.region(0, "#", "#");
        x.way(2, true);
        Check.skipAll(x, 0);
        Check.due("one row skipped", Check.tell(x), "0" + "01" + "1");
        Check.skipAll(x, 1);
        Check.due("all skipped", Check.tell(x), "001");
        Check.due("rows", Check.column(x, 2), "0 1 2");
    }

    private static void faxHasNoSkips() {
        Check.sentence(9, "BY FAX, there are no skips");
        GenericRegions x = Check.region(0, "#.#");
        GenericRegions plain = Check.region(0, "#.#");
        Check.skipAll(x, 0);
        x.way(1, true);
        plain.way(1, true);
        Check.due("bits", Check.tell(x), Check.tell(plain));
        x.way(1, false);
        Check.due("by samples they are again", x.tell(), 0);
    }

    private static void faxHasNoTypicalRows() {
        Check.sentence(9, "BY FAX, there are no typical rows");
        GenericRegions x = Check.region(0, "..", "..");
        x.way(0, true);
        x.way(1, true);
        Check.due("bits", Check.tell(x), "11");
        Check.due("copies", x.copies(), 0);
        x.way(1, false);
        Check.due("by samples they are again", Check.tell(x), "10");
        Check.due("copies", x.copies(), 2);
    }

    private static void faxContexts() {
        Check.sentence(9, "BY FAX, all bits have context 65537");
        for (int template = 0; template <= 3; template++) {
            GenericRegions x = Check.region(template, "#..#", ".##.");
            x.way(1, true);
            x.tell();
            for (int i = 0; i < x.told(4); i++) {
                Check.due("context", x.bit(i, 1), GenericRegions.FAX);
            }
            x.way(2, true);
            x.tell();
            Check.due("the bit before a row", x.bit(0, 1), GenericRegions.OPEN);
            Check.due("the bit behind the last row", x.bit(x.told(4) - 1, 1), GenericRegions.OPEN);
        }
    }

    private static void faxOfOneSample() {
        Check.sentence(9, "So on, till P is the width: one sample");
        GenericRegions white = Check.region(0, ".", ".");
        white.way(1, true);
        Check.due("white", Check.tell(white), "11");
        GenericRegions x = Check.region(0, "#", "#", ".", "#");
        x.way(1, true);
        // A1 0, B1 1: 010, then A1 1, B1 1: 1; black below black 1, 1; white below black: A1 1, B1 0: 011
        Check.due("black and white", Check.tell(x), "0101" + "11" + "011" + "0101");
    }

    private static void faxFirstRow() {
        Check.sentence(9, "the row above (above the first: white)");
        GenericRegions x = made(24, 1, 0);
        x.way(1, true);
        Check.due("white", Check.tell(x), "1");
        x.row(0, 1 << 23);
        Check.due("the last sample", Check.tell(x), "010" + "1");
        x.row(0, 3 << 22);
        Check.due("the last two", Check.tell(x), "000010" + "1");
        x.row(0, 7 << 21);
        Check.due("the last three", Check.tell(x), "0000010" + "1");
        x.row(0, 15 << 20);
        Check.due("the last four", Check.tell(x), "001" + "000010101" + "00101");
        x.row(0, 1);
        Check.due("the first sample", Check.tell(x), "001" + "1" + "010" + "1");
    }

    private static void below(String above, String row, String due) {
        GenericRegions x = Check.region(0, above, row);
        x.way(1, true);
        x.tell();
        Check.due(row + " below " + above, bitsOfRow(x, 1), due.replace(" ", ""));
        x.pass(6000);
        Check.due("read", x.read(), 2);
        Check.due("got", Check.gotRow(x, 1), row);
    }

    private static void faxPass() {
        Check.sentence(9, "If B2 is left of A1: 0001; P is B2");
        below("#.........", "..#.......", "0001 001 010 010 1");
        // B2 is at A1, not left of it: A1 is one from B1
        below("#.........", ".#........", "011 001 010 0001001");
        below("..##......", "....######", "000011 1");
        below("..##......", ".....#####", "0001 001 010 00110");
        // black: B2 is the black one right of B1
        below("##.#......", "#####.....", "1 0001 011 1");
        below("#.#.#.#.#.", "..........", "0001 0001 0001 0001 0001 1");
        // B2 is the width, A1 the width too
        below(".........#", "..........", "011");
    }

    private static void faxNear() {
        Check.sentence(9, "if A1 is at most three from B1: for A1 less B1 of 0: 1; 1: 011; 2: 000011; 3: 0000011;"
            + " -1: 010; -2: 000010; -3: 0000010");
        below("....######", "....######", "1 1");
        below("....######", ".....#####", "011 1");
        below("....######", "......####", "000011 1");
        below("....######", ".......###", "0000011 1");
        below("....######", "...#######", "010 1");
        below("....######", "..########", "000010 1");
        below("....######", ".#########", "0000010 1");
    }

    private static void faxFar() {
        Check.sentence(9, "Else 001, and two NUMBERS");
        // four from B1, to the left and to the right
        below("....######", "##########", "001 1 0001011");
        below("....######", "........##", "001 0001001 011");
        below("....######", ".........#", "001 0001010 010");
        below("....######", "..........", "001 0001011 1");
    }

    private static void faxB1() {
        Check.sentence(9, "B1 the first one of the row above right of P that is of the other colour,"
            + " with one of the colour left of it (outside: white); each the width, if there is none");
        // outside, left of the first sample, is white: B1 is 0
        below("##########", "##########", "1 1");
        below("#.........", "#.........", "1 1 1");
        // P is 0 and black: of the white ones right of it, that at 3 has black left of it
        below(".##.......", "###.......", "010 1 1");
        // P is 2, white: black at 3 has black left of it, so B1 is the width
        below("..##......", "##........", "000010 000010 1");
        // right of P, not at it: P is 4 when the white above begins there
        below("....#.....", "...##.....", "010 1 1");
    }

    private static void faxNumbersFrom() {
        Check.sentence(9, "how many samples from P (0, if P is -1) to A1, and from A1 to A2");
        below("..........", "#.........", "001 1 010 1");
        below("..........", ".#........", "001 010 010 1");
        below("..........", "##########", "001 1 0001011");
        // from P = 0, where black begins: A1 is 5 from it
        below("#...................", "#####...............", "1 001 00110 000010000");
    }

    private static void faxA2() {
        Check.sentence(9, "A2, the first one right of A1 of the colour, or the width; P is A2");
        below("..........", "..########", "001 011 0001001");
        below("..........", "..####....", "001 011 00101 1");
        // A1 is the width, and so is A2
        below("##########", "..........", "001 0001011 1");
        // A2 is the width less one: the row goes on from there
        below("..........", ".########.", "001 010 0001001 1");
    }

    private static void faxNumber() {
        Check.sentence(9, "A NUMBER n: as many bits 0 as n + 1 has binary digits less one, then these digits");
        String[] due = {"1", "010", "011", "00100", "00101", "00110", "00111", "0001000", "0001001", "0001010",
            "0001011", "0001100", "0001101", "0001110", "0001111", "000010000", "000010001", "000010010", "000010011",
            "000010100", "000010101"};
        for (int n = 0; n < due.length; n++) {
            GenericRegions x = made(24, 1, 0);
            x.way(1, true);
            x.row(0, -1 << n);
            Check.due(n + " white and " + (24 - n) + " black", Check.tell(x), "001" + due[n] + digits(24 - n));
        }
        GenericRegions x = made(24, 2, 0);
        x.way(1, true);
        x.row(0, -1);
        Check.due("24 white below black", Check.tell(x), "001" + "1" + digits(24) + "001" + digits(24) + "1");
    }

    private static String digits(int n) {
        String digits = Integer.toBinaryString(n + 1);
        return "0".repeat(digits.length() - 1) + digits;
    }

    private static void faxLongest() {
        Check.sentence(9, "The region is told: how many bits, also of a long one by fax");
        // by turns 101010.. and white: 12 passes, or 24 codes of three bits and more
        GenericRegions x = made(24, 24, 0);
        x.way(1, true);
        x.way(2, true);
        for (int y = 0; y < 24; y++) {
            x.row(y, y % 2 == 0 ? 0x249249 : 0);
        }
        int bits = x.tell();
        Check.due("pass", x.pass(MAX), bits);
        Check.due("read", x.read(), 24);
        Check.due("all", x.told(8), 1);
        Check.due("all bits", x.told(6), bits);
        for (int y = 0; y < 24; y++) {
            Check.due("row " + y, Check.gotRow(x, y), y % 2 == 0 ? "#..".repeat(8) : ".".repeat(24));
        }
    }

    private static void tellAgain() {
        Check.sentence(9, "The region is told: again, and again as it is then");
        GenericRegions x = Check.region(0, "#.#", "#.#");
        String first = Check.tell(x);
        Check.due("the same", Check.tell(x), first);
        x.way(0, true);
        Check.due("fewer bits", x.tell(), 5);
        x.way(0, false);
        Check.due("and as at first", Check.tell(x), first);
        Check.due("told does not read", x.told(7), 0);
        Check.due("told does not come", x.told(5), 0);
    }

    private static void bitNoSuchBit() {
        Check.sentence(10, "IndexOutOfBounds: there is no such bit");
        GenericRegions x = made(3, 2, 0);
        int[] always = {-1, 6, 7, MIN, MAX};
        for (int what = 0; what <= 2; what++) {
            int w = what;
            Check.index("nothing is told", () -> x.bit(0, w));
        }
        x.tell();
        for (int i : always) {
            for (int what = 0; what <= 2; what++) {
                int w = what;
                Check.index("bit(" + i + ", " + w + ")", () -> x.bit(i, w));
            }
        }
        Check.due("the last one", x.bit(5, 2), 1);
        Check.skipAll(x, 0);
        Check.skipAll(x, 1);
        x.tell();
        Check.index("no bits are told", () -> x.bit(0, 0));
    }

    private static void bitAnotherWhat() {
        Check.sentence(10, "IllegalArgument: another number is none that is told");
        GenericRegions x = made(3, 2, 0);
        x.tell();
        int[] none = {-1, 3, 4, MIN, MAX};
        String before = Check.state(x);
        for (int what : none) {
            Check.argument("bit(0, " + what + ")", () -> x.bit(0, what));
            Check.argument("bit(5, " + what + ")", () -> x.bit(5, what));
        }
        Check.due("nothing changed", Check.state(x), before);
    }

    private static void bitFirstOfTwo() {
        Check.sentence(10, "Of several that a call names, the first one");
        GenericRegions x = made(3, 2, 0);
        Check.index("nothing is told, and another what", () -> x.bit(0, 3));
        x.tell();
        Check.index("bit(6, 3)", () -> x.bit(6, 3));
        Check.index("bit(-1, -1)", () -> x.bit(-1, -1));
    }

    private static void bitToldLast() {
        Check.sentence(10, "Bit i that was told last");
        GenericRegions x = Check.region(0, "##", "##");
        x.tell();
        x.row(0, 0);
        x.skip(0, 1, true);
        x.loose(0, -1, 0);
        x.way(2, true);
        Check.due("as it was told", Check.column(x, 0) + "," + Check.column(x, 1), "1 1 1 1,0 1 192 385");
        x.way(2, false);
        x.tell();
        Check.due("told anew", Check.column(x, 0), "0 0 1");
        Check.index("one bit less now", () -> x.bit(3, 0));
        x.begin();
        Check.due("begin() leaves it", Check.column(x, 0), "0 0 1");
    }

    private static void bitRowOfTheLast() {
        Check.sentence(10, "its row, or the height for the last one of an open one");
        int[] heights = {1, 2, 23, 24};
        for (int height : heights) {
            for (int kind = 0; kind <= 1; kind++) {
                GenericRegions x = made(3, height, 0);
                x.way(kind, true);
                int closed = x.tell();
                Check.due("not open: the last row", x.bit(closed - 1, 2), height - 1);
                x.way(2, true);
                int bits = x.tell();
                Check.due("the last one", x.bit(bits - 1, 2), height);
                Check.due("it is a bit 1", x.bit(bits - 1, 0), 1);
                Check.due("its context", x.bit(bits - 1, 1), GenericRegions.OPEN);
                Check.due("the one before", x.bit(bits - 2, 2), height - 1);
                Check.due("the first one", x.bit(0, 2), 0);
            }
        }
    }

    private static void copiesNoneAndAll() {
        Check.sentence(11, "How many rows were copies: none, and all");
        GenericRegions x = made(5, 24, 0);
        Check.due("nothing is told", x.copies(), 0);
        x.way(0, true);
        Check.due("not told yet", x.copies(), 0);
        x.tell();
        Check.due("all", x.copies(), 24);
        for (int y = 0; y < 24; y++) {
            x.row(y, 1 + y % 2);
        }
        x.tell();
        Check.due("none", x.copies(), 0);
        x.row(23, 1);
        x.tell();
        Check.due("the last one alone", x.copies(), 1);
    }

    private static void copiesAboveTheFirst() {
        Check.sentence(11, "above the first: white");
        GenericRegions x = Check.region(0, ".#", "..", ".#");
        x.way(0, true);
        x.tell();
        Check.due("the first is not white", x.copies(), 0);
        x.row(0, 0);
        x.tell();
        Check.due("the first two are white", x.copies(), 2);
        x.row(0, 2);
        x.row(1, 2);
        x.row(2, 2);
        x.tell();
        Check.due("all alike, not white", x.copies(), 2);
    }

    private static void copiesOfWhatWasToldLast() {
        Check.sentence(11, "of what was told last");
        GenericRegions x = made(2, 3, 0);
        x.way(0, true);
        x.tell();
        x.row(1, 1);
        x.way(0, false);
        x.begin();
        Check.due("as it was told", x.copies(), 3);
        x.tell();
        Check.due("told without typical rows", x.copies(), 0);
        x.way(0, true);
        x.tell();
        x.tell();
        Check.due("told twice, counted once", x.copies(), 1);
        x.clear();
        Check.due("cleared", x.copies(), 0);
    }

    private static void copiesInOtherWays() {
        Check.sentence(11, "How many rows were copies: with typical rows, not by fax");
        GenericRegions x = made(2, 3, 0);
        x.tell();
        Check.due("by samples", x.copies(), 0);
        x.way(1, true);
        x.tell();
        Check.due("by fax", x.copies(), 0);
        x.way(0, true);
        x.tell();
        Check.due("by fax, typical rows on", x.copies(), 0);
        x.way(1, false);
        x.way(2, true);
        x.tell();
        Check.due("typical and open", x.copies(), 3);
    }
}
