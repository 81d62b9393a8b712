/** Promises 12 to 17: bits that come, reading them, and what is told of it. */
public final class ReadTest {
    private ReadTest() {
    }

    public static void main(String[] args) {
        feed();
        feedLimit();
        pass();
        passLimit();
        bySamples();
        withoutBits();
        typical();
        open();
        noCode();
        badPlace();
        badNumber();
        refusedForGood();
        begin();
        told();
        everyTwoRows();
        Check.end();
    }

    private static GenericRegions fax(int width, int height) {
        GenericRegions x = new GenericRegions(width, height, 0);
        x.way(1, true);
        return x;
    }

    private static void feed() {
        GenericRegions x = new GenericRegions(3, 2, 0);
        Check.due("feed", x.feed(1), 1);
        Check.due("feed", x.feed(0), 2);
        String before = Check.state(x);
        int[] none = {-1, 2, Integer.MIN_VALUE, Integer.MAX_VALUE};
        for (int bit : none) {
            Check.argument("feed(" + bit + ")", () -> x.feed(bit));
        }
        Check.due("state", Check.state(x), before);
        Check.due("read in part", x.read(), 0);
        Check.due("got of a row in part", x.got(0, 0), false);
        Check.due("feed", x.feed(1), 3);
        Check.due("not read before read()", x.told(7), 0);
        Check.due("read", x.read(), 1);
        Check.due("got", Check.gotRow(x, 0), "#.#");
    }

    private static void feedLimit() {
        GenericRegions x = new GenericRegions(3, 2, 0);
        for (int i = 1; i <= 6000; i++) {
            Check.due("feed", x.feed(i & 1), i);
        }
        Check.unsupported("the 6001st", () -> x.feed(1));
        Check.argument("first of two", () -> x.feed(2));
        Check.due("came", x.told(5), 6000);
        Check.due("read", x.read(), 2);
        Check.due("bits read", x.told(6), 6);
        Check.due("begin", x.begin(), 6000);
        Check.due("feed", x.feed(1), 1);
    }

    private static void pass() {
        GenericRegions x = Check.region(0, "#.#.", "##..");
        Check.due("nothing told", x.pass(5), 0);
        x.tell();
        Check.due("pass(0)", x.pass(0), 0);
        Check.due("pass(3)", x.pass(3), 3);
        String before = Check.state(x);
        Check.argument("pass(-1)", () -> x.pass(-1));
        Check.argument("pass(min)", () -> x.pass(Integer.MIN_VALUE));
        Check.due("state", Check.state(x), before);
        Check.due("a bit between", x.feed(1), 4);
        Check.due("pass(max)", x.pass(Integer.MAX_VALUE), 5);
        Check.due("pass no more", x.pass(1), 0);
        Check.due("came", x.told(5), 9);
        Check.due("read", x.read(), 2);
        Check.due("row 0", Check.gotRow(x, 0), "#.##");
        Check.due("row 1", Check.gotRow(x, 1), ".##.");
        x.row(0, 0);
        x.row(1, 0);
        Check.due("put changes nothing that was told", x.pass(1), 0);
        x.tell();
        Check.due("told anew", x.pass(2), 2);
        Check.due("begin", x.begin(), 11);
        Check.due("all since begin", x.pass(99), 8);
        x.tell();
        Check.due("all since they were told", x.pass(99), 8);
        Check.due("came", x.told(5), 16);
    }

    private static void passLimit() {
        GenericRegions x = new GenericRegions(24, 24, 0);
        x.tell();
        for (int i = 0; i < 10; i++) {
            Check.due("pass", x.pass(576), 576);
            x.tell();
        }
        String before = Check.state(x);
        Check.unsupported("more than 6000", () -> x.pass(241));
        Check.unsupported("more than 6000", () -> x.pass(Integer.MAX_VALUE));
        Check.argument("first of two", () -> x.pass(-1));
        Check.due("state", Check.state(x), before);
        Check.due("as many as may be", x.pass(240), 240);
        Check.unsupported("one more", () -> x.pass(1));
        Check.due("none", x.pass(0), 0);
        Check.due("came", x.told(5), 6000);
        x.row(0, 0);
        x.begin();
        x.tell();
        x.pass(576);
        Check.due("read", x.read(), 24);
        Check.due("none are left", x.pass(1), 0);
    }

    private static void bySamples() {
        GenericRegions x = new GenericRegions(3, 2, 0);
        Check.due("read nothing", x.read(), 0);
        Check.feed(x, "10");
        Check.due("read", x.read(), 0);
        Check.due("told(6)", x.told(6), 0);
        Check.feed(x, "11");
        Check.due("read", x.read(), 1);
        Check.due("told(6)", x.told(6), 3);
        Check.due("told(8)", x.told(8), 0);
        Check.feed(x, "01");
        Check.due("read", x.read(), 2);
        Check.due("read again", x.read(), 2);
        Check.due("told(8)", x.told(8), 1);
        Check.due("row 1", Check.gotRow(x, 1), "#.#");
        Check.feed(x, "1111");
        Check.due("the height is known", x.read(), 2);
        Check.due("told(5)", x.told(5), 10);
        Check.due("told(6)", x.told(6), 6);
        x.skip(0, 1, true);
        Check.due("read anew", x.read(), 2);
        Check.due("row 1 anew", Check.gotRow(x, 1), ".#.");
        Check.due("told(6)", x.told(6), 5);
    }

    private static void withoutBits() {
        GenericRegions x = new GenericRegions(2, 3, 0);
        x.skip(0, 0, true);
        x.skip(1, 0, true);
        Check.due("not read before read()", x.told(7), 0);
        Check.due("a row of no bits", x.read(), 1);
        Check.due("told(6)", x.told(6), 0);
        for (int y = 1; y < 3; y++) {
            x.skip(0, y, true);
            x.skip(1, y, true);
        }
        Check.due("not all read yet", x.told(8), 0);
        Check.due("all rows of no bits", x.read(), 3);
        Check.due("all is read", x.told(8), 1);
        x.way(2, true);
        Check.due("open, a bit must be before it", x.read(), 0);
        Check.feed(x, "00");
        Check.due("two rows", x.read(), 2);
        x.way(2, false);
        x.way(0, true);
        Check.due("typical", x.read(), 2);
    }

    private static void typical() {
        GenericRegions x = new GenericRegions(2, 4, 0);
        x.way(0, true);
        Check.feed(x, "1");
        Check.due("copy of white", x.read(), 1);
        Check.feed(x, "1");
        Check.due("no copy", x.read(), 1);
        Check.feed(x, "11");
        Check.due("its samples", x.read(), 2);
        Check.due("told(6)", x.told(6), 4);
        x.skip(0, 2, true);
        x.skip(1, 3, true);
        Check.feed(x, "10");
        Check.due("copies", x.read(), 4);
        Check.due("row 1", Check.gotRow(x, 1), "##");
        Check.due("a copy also where it is skipped", Check.gotRow(x, 2), "##");
        Check.due("a copy also where it is skipped", Check.gotRow(x, 3), "##");
        Check.due("told(8)", x.told(8), 1);
        x.begin();
        Check.feed(x, "010" + "11");
        Check.due("none before the first, again", x.read(), 2);
        Check.due("row 0", Check.gotRow(x, 0), "#.");
        Check.due("row 1", Check.gotRow(x, 1), "#.");
    }

    private static void open() {
        GenericRegions x = new GenericRegions(2, 2, 0);
        x.way(2, true);
        Check.feed(x, "0");
        Check.due("a bit before it", x.read(), 0);
        Check.due("told(6)", x.told(6), 0);
        Check.feed(x, "10");
        Check.due("a row", x.read(), 1);
        Check.due("told(6)", x.told(6), 3);
        Check.due("told(8)", x.told(8), 0);
        Check.feed(x, "1");
        Check.due("the end", x.read(), 1);
        Check.due("told(8)", x.told(8), 1);
        Check.due("told(6)", x.told(6), 4);
        Check.due("row 1", Check.gotRow(x, 1), "..");
        Check.feed(x, "0000");
        Check.due("behind the end", x.read(), 1);
        Check.due("told(6)", x.told(6), 4);
        x.begin();
        Check.feed(x, "1");
        Check.due("no rows", x.read(), 0);
        Check.due("all", x.told(8), 1);
        x.begin();
        Check.feed(x, "011" + "001");
        Check.due("the height", x.read(), 2);
        Check.due("not the end yet", x.told(8), 0);
        Check.feed(x, "0");
        Check.due("a row more", x.read(), -4);
        Check.due("rows", x.told(7), 2);
        Check.due("bits", x.told(6), 6);
        Check.due("not all", x.told(8), 0);
        Check.due("got", Check.gotRow(x, 0), "##");
        x.way(2, false);
        Check.due("begun again", x.read(), 2);
        Check.due("row 0", Check.gotRow(x, 0), ".#");
    }

    /** Reads bits one by one: before the last one, rows; with it, the answer. */
    private static void refusedAt(GenericRegions x, String bits, int rows, int answer) {
        String plain = bits.replace(" ", "");
        x.begin();
        for (int i = 0; i < plain.length(); i++) {
            x.feed(plain.charAt(i) - '0');
            int got = x.read();
            boolean last = i == plain.length() - 1;
            if (last) {
                Check.due("read of " + bits, got, answer);
            } else {
                Check.due("read before the last of " + bits, got >= 0, true);
            }
        }
        Check.due("rows of " + bits, x.told(7), rows);
        x.begin();
        Check.feed(x, bits);
        Check.due("read at once of " + bits, x.read(), answer);
    }

    private static void noCode() {
        refusedAt(fax(8, 2), "0000000", 0, -1);
        refusedAt(fax(8, 2), "0000001", 0, -1);
        refusedAt(fax(8, 2), "1 0000000", 1, -1);
        refusedAt(fax(8, 2), "010 0000001", 0, -1);
        GenericRegions x = fax(8, 2);
        Check.feed(x, "000000");
        Check.due("six bits are no code yet", x.read(), 0);
    }

    private static void badPlace() {
        // the row above the first is white: B1 is the width
        refusedAt(fax(8, 2), "011", 0, -2);
        refusedAt(fax(8, 2), "000011", 0, -2);
        refusedAt(fax(8, 2), "0000011", 0, -2);
        refusedAt(fax(8, 2), "0001", 0, -2);
        refusedAt(fax(2, 2), "0000010", 0, -2);
        refusedAt(fax(1, 2), "000010", 0, -2);
        // P is 7, A1 would be 7 or 6
        refusedAt(fax(8, 2), "010 010", 0, -2);
        refusedAt(fax(8, 2), "010 000010", 0, -2);
        // first row #######., B2 is 7 there, the width for the second pass
        refusedAt(fax(8, 2), "001 1 0001000 1 0001 0001", 1, -2);
        // first row ########: B1 is 0, B2 the width
        refusedAt(fax(8, 2), "001 1 0001001 0001", 1, -2);
        refusedAt(fax(8, 2), "001 1 0001001 010", 1, -2);
        GenericRegions x = fax(3, 1);
        Check.feed(x, "0000010 1");
        Check.due("A1 at 0 is right of P", x.read(), 1);
        Check.due("row", Check.gotRow(x, 0), "###");
        GenericRegions y = fax(8, 2);
        Check.feed(y, "001 1 0001000 1 0001 1");
        Check.due("a pass before the width", y.read(), 2);
        Check.due("row", Check.gotRow(y, 1), "........");
    }

    private static void badNumber() {
        refusedAt(fax(8, 2), "001 00000", 0, -3);
        refusedAt(fax(8, 2), "001 1 00000", 0, -3);
        refusedAt(fax(8, 2), "001 1 0001010", 0, -3);
        refusedAt(fax(8, 2), "001 0001001 010", 0, -3);
        // 9 alone is beyond the width, yet the numbers end with the second one
        refusedAt(fax(8, 2), "001 0001010 1", 0, -3);
        refusedAt(fax(8, 2), "001 000011111 1", 0, -3);
        refusedAt(fax(24, 2), "001 000011001 010", 0, -3);
        // not right of P: nothing behind P = 3
        refusedAt(fax(8, 2), "001 010 011 001 1 1", 0, -3);
        GenericRegions x = fax(8, 1);
        Check.feed(x, "001 1 1");
        Check.due("0 is right of -1", x.read(), 0);
        Check.feed(x, "001 010 011");
        Check.due("goes on from 0", x.read(), 0);
        Check.feed(x, "1");
        Check.due("whole", x.read(), 1);
        Check.due("row", Check.gotRow(x, 0), ".##.....");
        refusedAt(fax(8, 2), "001 1 1 001 1 1", 0, -3);
        GenericRegions y = fax(24, 1);
        Check.feed(y, "001 000011001 1");
        Check.due("24 white", y.read(), 1);
        GenericRegions z = fax(24, 1);
        Check.feed(z, "001 1 000011001");
        Check.due("24 black", z.read(), 1);
        Check.due("row", Check.gotRow(z, 0), "#".repeat(24));
        GenericRegions w = fax(8, 1);
        Check.feed(w, "001 0000");
        Check.due("four bits 0 may be", w.read(), 0);
    }

    private static void refusedForGood() {
        GenericRegions x = fax(4, 3);
        Check.feed(x, "001 1 011 1" + "0001 0001" + "1111111");
        Check.due("refused", x.read(), -2);
        Check.due("still", x.read(), -2);
        Check.due("a bit comes all the same", x.feed(1), 24);
        Check.due("still", x.read(), -2);
        Check.due("rows", x.told(7), 1);
        Check.due("bits read", x.told(6), 8);
        Check.due("bits that came", x.told(5), 24);
        Check.due("all", x.told(8), 0);
        Check.due("row 0", Check.gotRow(x, 0), "##..");
        Check.due("nothing of the refused row", Check.gotRow(x, 1), "....");
        x.way(1, false);
        Check.due("begun again", x.told(7), 0);
        Check.due("by samples", x.read(), 3);
        Check.due("row 0", Check.gotRow(x, 0), "..##");
        x.way(1, true);
        Check.due("refused anew", x.read(), -2);
        x.begin();
        Check.due("not refused", x.read(), 0);
    }

    private static void begin() {
        GenericRegions x = Check.region(0, "#.", ".#");
        Check.due("begin with none", x.begin(), 0);
        x.skip(1, 0, true);
        x.tell();
        x.pass(99);
        x.feed(1);
        Check.due("read", x.read(), 2);
        Check.due("begin", x.begin(), 4);
        Check.due("bits told", x.told(4), 3);
        for (int what = 5; what <= 8; what++) {
            Check.due("begun, told(" + what + ")", x.told(what), 0);
        }
        Check.due("got", x.got(0, 0), false);
        Check.due("read nothing", x.read(), 0);
        Check.due("skips stay", x.tell(), 3);
        Check.feed(x, "0");
        Check.due("new bits", x.read(), 1);
        Check.due("got", x.got(0, 0), false);
        x.way(2, true);
        x.begin();
        Check.feed(x, "1");
        Check.due("ways stay", x.read(), 0);
        Check.due("ended", x.told(8), 1);
    }

    private static void told() {
        GenericRegions x = new GenericRegions(7, 5, 1);
        int[] none = {-1, 9, Integer.MIN_VALUE, Integer.MAX_VALUE};
        for (int what : none) {
            Check.due("told(" + what + ")", x.told(what), GenericRegions.NONE);
        }
        x.tell();
        x.pass(20);
        x.read();
        int[] due = {7, 5, 1, 1, 35, 20, 14, 2, 0};
        for (int what = 0; what < due.length; what++) {
            Check.due("told(" + what + ")", x.told(what), due[what]);
        }
        Check.due("NONE", GenericRegions.NONE, -1);
        Check.due("OPEN", GenericRegions.OPEN, 65536);
        Check.due("FAX", GenericRegions.FAX, 65537);
    }

    private static void everyTwoRows() {
        for (int width = 1; width <= 5; width++) {
            for (int rows = 0; rows < 1 << 2 * width; rows++) {
                for (int ways = 0; ways < 8; ways++) {
                    readBack(width, rows, ways);
                }
            }
        }
    }

    private static void readBack(int width, int rows, int ways) {
        GenericRegions x = new GenericRegions(width, 2, 0);
        x.row(0, rows);
        x.row(1, rows >> width);
        for (int kind = 0; kind <= 2; kind++) {
            x.way(kind, (ways >> kind & 1) == 1);
        }
        String call = "width " + width + ", rows " + rows + ", ways " + ways + ": ";
        int bits = x.tell();
        Check.due(call + "pass", x.pass(6000), bits);
        Check.due(call + "read", x.read(), 2);
        Check.due(call + "bits read", x.told(6), bits);
        Check.due(call + "all", x.told(8), 1);
        for (int y = 0; y < 2; y++) {
            for (int i = 0; i < width; i++) {
                Check.due(call + "got(" + i + ", " + y + ")", x.got(i, y), x.at(i, y));
            }
        }
    }
}
