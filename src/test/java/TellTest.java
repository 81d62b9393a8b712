/** Promises 9 to 11: what is told, bit by bit, in each of the ways. */
public final class TellTest {
    private TellTest() {
    }

    public static void main(String[] args) {
        samples();
        wrongBits();
        typical();
        typicalContexts();
        typicalSkips();
        open();
        fax();
        faxWays();
        numbers();
        clear();
        Check.end();
    }

    private static void samples() {
        GenericRegions x = Check.region(2, "#.#", "##.");
        Check.due("tell", x.tell(), 6);
        Check.due("told(4)", x.told(4), 6);
        Check.due("bits", Check.column(x, 0), "1 0 1 1 1 0");
        // template 2: -1 0, -2 0, (2 -1), 1 -1, 0 -1, -1 -1, -2 -1, ..
        Check.due("contexts", Check.column(x, 1), "0 1 2 20 41 83");
        Check.due("rows", Check.column(x, 2), "0 0 0 1 1 1");
        x.put(0, 0, false);
        Check.due("what was told last stays", Check.column(x, 0), "1 0 1 1 1 0");
        Check.due("tell anew", Check.tell(x), "001110");
        Check.due("no typical rows, no copies", x.copies(), 0);
        x.skip(2, 0, true);
        Check.due("skipped is not told", Check.tell(x), "00110");
        Check.due("rows", Check.column(x, 2), "0 0 1 1 1");
        Check.due("contexts", Check.column(x, 1), "0 0 0 1 3");
    }

    private static void wrongBits() {
        GenericRegions x = new GenericRegions(2, 1, 0);
        Check.index("nothing told yet", () -> x.bit(0, 0));
        Check.index("first of two", () -> x.bit(0, 3));
        x.tell();
        Check.index("bit(-1)", () -> x.bit(-1, 0));
        Check.index("bit(2)", () -> x.bit(2, 0));
        Check.index("bit(max)", () -> x.bit(Integer.MAX_VALUE, 0));
        Check.index("bit(min)", () -> x.bit(Integer.MIN_VALUE, 0));
        Check.index("both wrong", () -> x.bit(2, 3));
        Check.argument("what 3", () -> x.bit(1, 3));
        Check.argument("what -1", () -> x.bit(1, -1));
        Check.argument("what max", () -> x.bit(0, Integer.MAX_VALUE));
        Check.due("bit(1)", x.bit(1, 0), 0);
    }

    private static void typical() {
        GenericRegions x = Check.region(1, "..", "..", ".#", ".#", "#.", "#.");
        x.way(0, true);
        // copy, copy, none, copy, none, copy
        Check.due("bits", Check.tell(x), "1" + "0" + "101" + "1" + "110" + "1");
        Check.due("copies", x.copies(), 4);
        Check.due("rows", Check.column(x, 2), "0 1 2 2 2 3 4 4 4 5");
        x.way(0, false);
        Check.due("copies of what was told last", x.copies(), 4);
        Check.due("tell", x.tell(), 12);
        Check.due("none told as copies", x.copies(), 0);
        GenericRegions none = Check.region(1, "#", ".", "#");
        none.way(0, true);
        Check.due("none", Check.tell(none), "010001");
        Check.due("no copies", none.copies(), 0);
    }

    private static void typicalContexts() {
        int[] due = {39717, 1941, 229, 405};
        for (int template = 0; template <= 3; template++) {
            GenericRegions x = new GenericRegions(3, 2, template);
            x.loose(0, -5, -3);
            x.way(0, true);
            Check.due("tell", x.tell(), 2);
            Check.due("context", x.bit(0, 1), due[template]);
            Check.due("context", x.bit(1, 1), due[template]);
        }
    }

    private static void typicalSkips() {
        GenericRegions x = Check.region(0, "##.", "#.#");
        x.way(0, true);
        x.skip(1, 0, true);
        x.skip(2, 1, true);
        // both rows are told as #.., so the second one is a copy
        Check.due("bits", Check.tell(x), "0101");
        Check.due("row", x.bit(3, 2), 1);
        Check.due("copies", x.copies(), 1);
        GenericRegions y = Check.region(0, "##", "##");
        y.way(0, true);
        y.skip(1, 1, true);
        Check.due("told otherwise", Check.tell(y), "01101");
        Check.due("copies", y.copies(), 0);
    }

    private static void open() {
        GenericRegions x = Check.region(0, "#.", "#.");
        x.way(2, true);
        Check.due("bits", Check.tell(x), "0100101");
        Check.due("rows", Check.column(x, 2), "0 0 0 1 1 1 2");
        Check.due("context of the first", x.bit(0, 1), GenericRegions.OPEN);
        Check.due("context of a sample", x.bit(2, 1), 1);
        Check.due("context of the second", x.bit(3, 1), 65536);
        Check.due("context of the last", x.bit(6, 1), 65536);
        x.way(0, true);
        Check.due("with typical rows", Check.tell(x), "0010" + "01" + "1");
        Check.due("order", x.bit(4, 1) + " " + x.bit(5, 1), "65536 39717");
    }

    private static void faxRow(String above, String row, String... codes) {
        GenericRegions x = Check.region(0, above, row);
        x.way(1, true);
        x.tell();
        StringBuilder bits = new StringBuilder();
        for (int i = 0; i < x.told(4); i++) {
            Check.due("context", x.bit(i, 1), GenericRegions.FAX);
            if (x.bit(i, 2) == 1) {
                bits.append(x.bit(i, 0));
            }
        }
        Check.due(row + " below " + above, bits.toString(), String.join("", codes));
        x.pass(6000);
        Check.due("read", x.read(), 2);
        Check.due("got above", Check.gotRow(x, 0), above);
        Check.due("got", Check.gotRow(x, 1), row);
        Check.due("all bits read", x.told(6), x.told(4));
    }

    private static void fax() {
        faxRow("........", "........", "1");
        faxRow("...##...", "...##...", "1", "1", "1");
        faxRow("########", "########", "1", "1");
        faxRow("...##...", "....#...", "011", "1", "1");
        faxRow("...###..", ".....#..", "000011", "1", "1");
        faxRow("...#####", "......##", "0000011", "1");
        faxRow("...##...", "..###...", "010", "1", "1");
        faxRow("...##...", ".####...", "000010", "1", "1");
        faxRow("...##...", "#####...", "0000010", "1", "1");
        faxRow("...##...", "........", "0001", "1");
        faxRow("##......", ".......#", "0001", "010", "1");
        faxRow("#.#.#.#.", "........", "0001", "0001", "0001", "0001", "1");
        // B2 at A1 is not left of it; A1 is one right of B1
        faxRow("...#....", "....##..", "011", "000010", "1");
        // P to A1 is 0 samples at the left edge
        faxRow("........", "#.......", "001", "1", "010", "1");
        faxRow("........", ".##.....", "001", "010", "011", "1");
        // A1 is the width, B1 far left of it, B2 the width too
        faxRow("########", "........", "001", "0001001", "1");
        // black in the last sample alone
        faxRow("........", ".......#", "010", "1");
        // a run that goes on from a place in the middle
        faxRow("................", "#..##...........", "001", "1", "010", "001", "011", "011", "1");
        // P is 1 and black: the white above that is right of it has none of the colour left of it
        faxRow("..######", ".#.#####", "010", "001", "010", "010", "1");
        // P is 3 and white: of the black above that is right of it only the one at 6 is a B1
        faxRow("..###.##", "..#..###", "1", "000010", "010", "1");
        GenericRegions one = Check.region(0, "#");
        one.way(1, true);
        Check.due("one black", Check.tell(one), "0101");
    }

    private static void faxWays() {
        GenericRegions x = Check.region(3, "#...", "#...");
        x.way(1, true);
        x.way(0, true);
        x.skip(0, 0, true);
        Check.due("no skips, no typical rows", Check.tell(x), "001" + "1" + "010" + "1" + "1" + "1" + "1");
        Check.due("no copies", x.copies(), 0);
        x.way(2, true);
        Check.due("open", Check.tell(x), "0" + "00110101" + "0" + "111" + "1");
        Check.due("contexts", Check.column(x, 1), "65536" + " 65537".repeat(8) + " 65536" + " 65537".repeat(3) + " 65536");
        Check.due("rows", Check.column(x, 2), "0".repeat(9).replace("0", "0 ") + "1 1 1 1 2");
    }

    private static void numbers() {
        String[] due = {"1", "010", "011", "00100", "00101", "00110", "00111", "0001000", "0001001"};
        for (int n = 0; n < due.length; n++) {
            GenericRegions x = new GenericRegions(24, 1, 0);
            x.way(1, true);
            x.row(0, 3 << n);
            Check.due("number " + n, Check.tell(x), "001" + due[n] + "011" + "1");
        }
        GenericRegions x = new GenericRegions(24, 2, 0);
        x.way(1, true);
        x.row(0, -1);
        Check.due("number 24", Check.tell(x), "001" + "1" + "000011001" + "001" + "000011001" + "1");
    }

    private static void clear() {
        GenericRegions x = Check.region(0, "##.", "##.", "..#");
        String fresh = Check.state(new GenericRegions(3, 3, 0));
        String freshTold = told(new GenericRegions(3, 3, 0));
        for (int kind = 0; kind <= 2; kind++) {
            x.way(0, true);
            x.way(kind, true);
            x.skip(1, 1, true);
            x.loose(3, -1, 0);
            x.loose(0, -1, 0);
            x.row(0, 3);
            x.tell();
            x.pass(7);
            x.read();
            x.clear();
            Check.due("cleared", Check.state(x), fresh);
            Check.due("nothing to pass", x.pass(1), 0);
            Check.due("told as at first", told(x), freshTold);
            x.clear();
            x.put(0, 2, true);
            Check.due("context of the first places", x.context(1, 2), 1);
            x.clear();
        }
        x.way(1, true);
        Check.feed(x, "0000000");
        Check.due("refused", x.read(), -1);
        x.clear();
        Check.due("refused no more", x.read(), 0);
        Check.feed(x, "101");
        Check.due("read", x.read(), 1);
        Check.due("got", Check.gotRow(x, 0), "#.#");
    }

    private static String told(GenericRegions x) {
        x.tell();
        return Check.state(x);
    }
}
