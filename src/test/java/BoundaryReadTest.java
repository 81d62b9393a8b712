/** Promises 12 to 18 at their boundaries: a test for each sentence that names one. */
public final class BoundaryReadTest {
    private static final int MIN = Integer.MIN_VALUE;
    private static final int MAX = Integer.MAX_VALUE;

    private BoundaryReadTest() {
    }

    public static void main(String[] args) {
        feedHowManyCame();
        feedAnotherNumber();
        feedFull();
        feedFirstOfTwo();
        feedBehindTheEnd();

        passNone();
        passAsManyAsThereAre();
        passToldLast();
        passSinceBegin();
        passBelowZero();
        passFull();
        passFirstOfTwo();

        readEmpty();
        readAsSoonAsAllBitsAreThere();
        readSkipped();
        readRowsOfNoBits();
        readTypical();
        readCopyWhereSkipped();
        readOpenNeedsABitBefore();
        readOpenEnds();
        readBitsBehindTheLastRow();
        refusedNoCode();
        refusedA1();
        refusedB2();
        refusedZeros();
        refusedNumbersBeyond();
        refusedNumbersNotRightOfP();
        refusedRowMore();
        refusedForGood();
        refusedAnew();

        gotOutside();
        gotWhiteWhereNothingWasRead();

        beginHowManyHadCome();
        beginReadsNothingOfBefore();
        beginLeavesTheRest();

        toldAnotherWhat();
        toldOfReading();

        clearAllAsAtFirst();
        clearOfANewOne();
        Check.end();
    }

    private static GenericRegions made(int width, int height) {
        return new GenericRegions(width, height, 0);
    }

    private static GenericRegions fax(int width, int height) {
        GenericRegions x = made(width, height);
        x.way(1, true);
        return x;
    }

    private static GenericRegions open(int width, int height) {
        GenericRegions x = made(width, height);
        x.way(2, true);
        return x;
    }

    private static void feedHowManyCame() {
        Check.sentence(12, "A bit comes behind those that are read: how many came");
        GenericRegions x = made(2, 2);
        Check.due("the first", x.feed(0), 1);
        Check.due("the second", x.feed(1), 2);
        Check.due("read", x.read(), 1);
        Check.due("those read count too", x.feed(1), 3);
        Check.due("came", x.told(5), 3);
        x.begin();
        Check.due("the first since begin()", x.feed(1), 1);
    }

    private static void feedAnotherNumber() {
        Check.sentence(12, "IllegalArgument: it is not 0 or 1");
        GenericRegions x = made(2, 2);
        Check.feed(x, "101");
        x.read();
        GenericRegions twin = made(2, 2);
        Check.feed(twin, "101");
        twin.read();
        int[] none = {-1, 2, 3, 256, MIN, MAX};
        for (int bit : none) {
            Check.argument("feed(" + bit + ")", () -> x.feed(bit));
        }
        Check.due("nothing changed", Check.future(x), Check.future(twin));
    }

    private static void feedFull() {
        Check.sentence(12, "UnsupportedOperation: there are 6000");
        GenericRegions x = made(24, 24);
        for (int i = 0; i < 10; i++) {
            x.tell();
            x.pass(576);
        }
        x.tell();
        x.pass(239);
        Check.due("the 6000th", x.feed(1), 6000);
        Check.unsupported("the 6001st, 0", () -> x.feed(0));
        Check.unsupported("the 6001st, 1", () -> x.feed(1));
        Check.due("came", x.told(5), 6000);
        Check.due("read", x.read(), 24);
        Check.unsupported("reading makes no room", () -> x.feed(1));
        Check.due("begin", x.begin(), 6000);
        Check.due("begin() makes room", x.feed(1), 1);
        GenericRegions cleared = Check.full();
        cleared.clear();
        Check.due("clear() makes room", cleared.feed(1), 1);
        GenericRegions changed = Check.full();
        Check.unsupported("feed", () -> changed.feed(1));
        Check.due("nothing changed", Check.future(changed), Check.future(Check.full()));
    }

    private static void feedFirstOfTwo() {
        Check.sentence(12, "Of several that a call names, the first one");
        GenericRegions x = Check.full();
        Check.argument("feed(2) where there are 6000", () -> x.feed(2));
        Check.argument("feed(-1) where there are 6000", () -> x.feed(-1));
    }

    private static void feedBehindTheEnd() {
        Check.sentence(12, "A bit comes: also when all is read, or refused");
        GenericRegions x = made(1, 1);
        x.feed(1);
        x.read();
        Check.due("all is read", x.feed(0), 2);
        GenericRegions refused = fax(8, 1);
        Check.feed(refused, "0000000");
        refused.read();
        Check.due("refused", refused.feed(0), 8);
    }

    private static void passNone() {
        Check.sentence(13, "So many of the bits come: none");
        GenericRegions x = made(2, 2);
        Check.due("nothing is told", x.pass(0), 0);
        Check.due("nothing is told", x.pass(MAX), 0);
        x.tell();
        Check.due("pass(0)", x.pass(0), 0);
        Check.due("came", x.told(5), 0);
        Check.due("all are there still", x.pass(4), 4);
        Check.due("none are left", x.pass(1), 0);
        Check.due("none are left", x.pass(0), 0);
    }

    private static void passAsManyAsThereAre() {
        Check.sentence(13, "or as many as there are: how many");
        int[] many = {4, 5, 6001, MAX};
        for (int m : many) {
            GenericRegions x = Check.region(0, "#.", ".#");
            x.tell();
            Check.due("pass(" + m + ")", x.pass(m), 4);
            Check.due("came", x.told(5), 4);
            Check.due("read", x.read(), 2);
            Check.due("got", Check.gotRow(x, 0) + Check.gotRow(x, 1), "#..#");
        }
        GenericRegions x = Check.region(0, "#.", ".#");
        x.tell();
        Check.due("one", x.pass(1), 1);
        Check.due("two", x.pass(2), 2);
        Check.due("the one that is left", x.pass(MAX), 1);
        x.read();
        Check.due("in their order", Check.gotRow(x, 0) + Check.gotRow(x, 1), "#..#");
    }

    private static void passToldLast() {
        Check.sentence(13, "the bits that were told last, and did not come yet since");
        GenericRegions x = Check.region(0, "##", "..");
        x.tell();
        x.pass(3);
        x.row(0, 0);
        Check.due("as they were told", x.pass(9), 1);
        x.tell();
        Check.due("told anew, all of them", x.pass(9), 4);
        Check.due("behind those that came", x.told(5), 8);
        x.tell();
        x.pass(4);
        Check.skipAll(x, 0);
        Check.skipAll(x, 1);
        x.tell();
        Check.due("no bits were told last", x.pass(9), 0);
    }

    private static void passSinceBegin() {
        Check.sentence(13, "did not come yet since (nor since begin())");
        GenericRegions x = Check.region(0, "#.", ".#");
        x.tell();
        x.pass(3);
        x.begin();
        Check.due("all of them again", x.pass(9), 4);
        x.begin();
        Check.due("and again", x.pass(2), 2);
        x.read();
        Check.due("from the first one", Check.gotRow(x, 0), "#.");
        x.feed(1);
        Check.due("bits by feed() are none of them", x.pass(9), 2);
    }

    private static void passBelowZero() {
        Check.sentence(13, "IllegalArgument: the number is below 0");
        GenericRegions x = Check.region(0, "#.", ".#");
        Check.argument("nothing is told", () -> x.pass(-1));
        x.tell();
        x.pass(1);
        GenericRegions twin = Check.region(0, "#.", ".#");
        twin.tell();
        twin.pass(1);
        int[] below = {-1, -2, MIN};
        for (int many : below) {
            Check.argument("pass(" + many + ")", () -> x.pass(many));
        }
        Check.due("nothing changed", Check.future(x), Check.future(twin));
    }

    private static void passFull() {
        Check.sentence(13, "UnsupportedOperation: there would be more than there may be");
        GenericRegions x = made(24, 24);
        for (int i = 0; i < 10; i++) {
            x.tell();
            x.pass(576);
        }
        x.tell();
        Check.unsupported("241 where 240 may come", () -> x.pass(241));
        Check.unsupported("all where 240 may come", () -> x.pass(MAX));
        Check.due("nothing came", x.told(5), 5760);
        Check.due("240 where 240 may come", x.pass(240), 240);
        Check.due("came", x.told(5), 6000);
        Check.unsupported("one more", () -> x.pass(1));
        Check.due("none more", x.pass(0), 0);
        GenericRegions small = made(24, 24);
        for (int i = 0; i < 10; i++) {
            small.tell();
            small.pass(576);
        }
        for (int y = 0; y < 14; y++) {
            Check.skipAll(small, y);
        }
        Check.due("as many bits as may come", small.tell(), 240);
        Check.due("more than may come, but there are not so many", small.pass(MAX), 240);
        Check.due("none are left, so none is too many", small.pass(MAX), 0);
        GenericRegions twin = Check.full();
        GenericRegions thrown = Check.full();
        Check.unsupported("pass", () -> thrown.pass(9));
        Check.due("nothing changed", Check.future(thrown), Check.future(twin));
    }

    private static void passFirstOfTwo() {
        Check.sentence(13, "Of several that a call names, the first one");
        GenericRegions x = Check.full();
        x.tell();
        Check.argument("pass(-1) where there are 6000", () -> x.pass(-1));
        Check.argument("pass(MIN) where there are 6000", () -> x.pass(MIN));
    }

    private static void readEmpty() {
        Check.sentence(14, "READING, as far as bits are there: there are none");
        for (int kinds = 0; kinds < 8; kinds++) {
            GenericRegions x = made(3, 3);
            for (int kind = 0; kind <= 2; kind++) {
                x.way(kind, (kinds >> kind & 1) == 1);
            }
            Check.due("read", x.read(), 0);
            Check.due("read", x.read(), 0);
            Check.due("all", x.told(8), 0);
        }
    }

    /** Bit by bit: a row is read with the last of its bits, and not before. */
    private static void bitByBit(String name, GenericRegions x, String... rows) {
        x.begin();
        int bits = 0;
        for (int y = 0; y < rows.length; y++) {
            String row = rows[y].replace(" ", "");
            for (int i = 0; i < row.length(); i++) {
                Check.due(name + ": rows before bit " + (bits + i), x.read(), y);
                Check.due(name + ": bits read", x.told(6), bits);
                x.feed(row.charAt(i) - '0');
            }
            bits += row.length();
            Check.due(name + ": rows with bit " + bits, x.read(), y + 1);
            Check.due(name + ": bits read", x.told(6), bits);
            Check.due(name + ": rows", x.told(7), y + 1);
        }
        String one = Check.state(x);
        x.begin();
        Check.feed(x, String.join("", rows));
        x.read();
        Check.due(name + ": at once", Check.state(x), one);
    }

    private static void readAsSoonAsAllBitsAreThere() {
        Check.sentence(14, "a row is read as soon as all of its bits are there");
        bitByBit("1 x 1", made(1, 1), "1");
        bitByBit("1 x 24", made(1, 24), "10".repeat(12).split(""));
        bitByBit("24 x 2", made(24, 2), "1".repeat(24), "0".repeat(24));
        bitByBit("open", open(3, 3), "0101", "0111", "0000");
        GenericRegions typical = made(3, 4);
        typical.way(0, true);
        bitByBit("typical", typical, "1", "1101", "1", "0");
        typical.way(2, true);
        bitByBit("typical, open", typical, "01", "01101", "01", "00");
        bitByBit("by fax", fax(8, 4), "1", "001 1 0001001", "1 1", "001 0001001 1");
        bitByBit("by fax with all codes", fax(24, 3), "001 00110 00110 001 00110 00110 1",
            "011 010 1 1 1", "1 0001 1 1");
        GenericRegions both = fax(8, 2);
        both.way(2, true);
        bitByBit("by fax, open", both, "0 1", "0 010 1");
        GenericRegions skips = made(3, 2);
        skips.skip(2, 0, true);
        skips.skip(0, 1, true);
        bitByBit("skipped", skips, "11", "11");
    }

    private static void readSkipped() {
        Check.sentence(14, "each sample that is not skipped: its bit");
        GenericRegions x = made(4, 2);
        x.skip(0, 0, true);
        x.skip(3, 1, true);
        Check.feed(x, "111" + "110");
        Check.due("read", x.read(), 2);
        Check.due("the first one skipped", Check.gotRow(x, 0), ".###");
        Check.due("the last one skipped", Check.gotRow(x, 1), "##..");
        x.way(1, true);
        x.begin();
        Check.feed(x, "001 1 00101");
        Check.due("by fax there are no skips", x.read(), 1);
        Check.due("by fax", Check.gotRow(x, 0), "####");
    }

    private static void readRowsOfNoBits() {
        Check.sentence(14, "a row is read as soon as all of its bits are there: it has none");
        GenericRegions x = made(2, 3);
        Check.skipAll(x, 0);
        Check.due("the first row", x.read(), 1);
        Check.feed(x, "11");
        Check.due("the next one has bits", x.read(), 2);
        Check.due("bits read", x.told(6), 2);
        Check.skipAll(x, 2);
        Check.due("the last row too", x.read(), 3);
        Check.due("all", x.told(8), 1);
        Check.due("row 1", Check.gotRow(x, 1), "##");
        Check.skipAll(x, 1);
        Check.due("no row has one", x.read(), 3);
        Check.due("bits read", x.told(6), 0);
        Check.due("all", x.told(8), 1);
        x.begin();
        Check.due("with no bits at all", x.read(), 3);
    }

    private static void readTypical() {
        Check.sentence(14, "1, if the row is a copy while the one before is none, or the other way round"
            + " (before the first: none); above the first: white");
        GenericRegions x = made(2, 4);
        x.way(0, true);
        Check.feed(x, "1000");
        Check.due("all copies of white", x.read(), 4);
        Check.due("row 3", Check.gotRow(x, 3), "..");
        Check.due("all", x.told(8), 1);
        x.begin();
        Check.feed(x, "011" + "1" + "110" + "1");
        Check.due("none, copy, none, copy", x.read(), 4);
        Check.due("rows", Check.gotRow(x, 0) + Check.gotRow(x, 1) + Check.gotRow(x, 2) + Check.gotRow(x, 3), "#####.#.");
        x.begin();
        Check.feed(x, "000" + "000" + "000" + "000");
        Check.due("none is a copy, though all are alike", x.read(), 4);
        Check.due("bits read", x.told(6), 12);
    }

    private static void readCopyWhereSkipped() {
        Check.sentence(14, "Read, it is as the one above also where it is skipped");
        GenericRegions x = made(3, 3);
        x.way(0, true);
        x.skip(0, 1, true);
        Check.skipAll(x, 2);
        Check.feed(x, "0111" + "1" + "0");
        Check.due("read", x.read(), 3);
        Check.due("row 1", Check.gotRow(x, 1), "###");
        Check.due("row 2", Check.gotRow(x, 2), "###");
        x.begin();
        Check.feed(x, "0111" + "011" + "0");
        Check.due("read", x.read(), 3);
        Check.due("no copy: skipped is white", Check.gotRow(x, 1), ".##");
        Check.due("no copy, all skipped", Check.gotRow(x, 2), "...");
    }

    private static void readOpenNeedsABitBefore() {
        Check.sentence(14, "and, if it is open, a bit before it");
        GenericRegions x = open(2, 2);
        Check.skipAll(x, 0);
        Check.skipAll(x, 1);
        Check.due("no bit", x.read(), 0);
        x.feed(0);
        Check.due("one", x.read(), 1);
        x.feed(0);
        Check.due("two", x.read(), 2);
        Check.due("not the end yet", x.told(8), 0);
        x.feed(1);
        Check.due("the end", x.read(), 2);
        Check.due("all", x.told(8), 1);
    }

    private static void readOpenEnds() {
        Check.sentence(14, "OPEN, the height is not known to who reads: behind the last a bit 1");
        for (int rows = 0; rows <= 3; rows++) {
            GenericRegions x = open(1, 3);
            Check.feed(x, "01".repeat(rows));
            Check.due("rows", x.read(), rows);
            Check.due("not the end yet", x.told(8), 0);
            Check.due("bits read", x.told(6), 2 * rows);
            x.feed(1);
            Check.due("the end", x.read(), rows);
            Check.due("all", x.told(8), 1);
            Check.due("rows read", x.told(7), rows);
            Check.due("its last bit is read", x.told(6), 2 * rows + 1);
            Check.feed(x, "010000");
            Check.due("bits behind the end", x.read(), rows);
            Check.due("are not read", x.told(6), 2 * rows + 1);
            Check.due("came", x.told(5), 2 * rows + 7);
        }
    }

    private static void readBitsBehindTheLastRow() {
        Check.sentence(14, "how many rows are read: the height is known, bits behind it stay");
        GenericRegions x = made(2, 2);
        Check.feed(x, "1111 1");
        Check.due("one bit more", x.read(), 2);
        Check.due("all", x.told(8), 1);
        Check.feed(x, "0000000");
        Check.due("more bits", x.read(), 2);
        Check.due("bits read", x.told(6), 4);
        GenericRegions byFax = fax(8, 1);
        Check.feed(byFax, "1 0000000");
        Check.due("by fax, what would be no code", byFax.read(), 1);
        Check.due("all", byFax.told(8), 1);
    }

    /** The last bit alone has it refused; before it there are so many rows. */
    private static void refused(GenericRegions x, String bits, int rows, int why) {
        String plain = bits.replace(" ", "");
        x.begin();
        for (int i = 0; i < plain.length(); i++) {
            Check.due("not refused before bit " + i + " of " + bits, x.read() >= 0, true);
            x.feed(plain.charAt(i) - '0');
        }
        Check.due("read of " + bits, x.read(), GenericRegions.NONE - why);
        Check.due("rows of " + bits, x.told(7), rows);
        Check.due("all of " + bits, x.told(8), 0);
        x.begin();
        Check.feed(x, bits);
        Check.due("read at once of " + bits, x.read(), GenericRegions.NONE - why);
        Check.feed(x, "1111111");
        Check.due("with bits behind " + bits, x.read(), GenericRegions.NONE - why);
        String[] behind = {"1111111", "0101011", "0011111111"};
        for (String more : behind) {
            x.begin();
            Check.feed(x, bits + more.repeat(4));
            Check.due("at once with more behind " + bits, x.read(), GenericRegions.NONE - why);
            Check.due("rows of " + bits, x.told(7), rows);
            Check.due("all of " + bits, x.told(8), 0);
            for (int y = rows; y < x.told(1); y++) {
                Check.due("nothing is got of " + bits, Check.gotRow(x, y), ".".repeat(x.told(0)));
            }
        }
    }

    /** It is not refused, and so many rows are read. */
    private static void taken(GenericRegions x, String bits, int rows, String last) {
        x.begin();
        Check.feed(x, bits);
        Check.due("read of " + bits, x.read(), rows);
        if (rows > 0) {
            Check.due("row of " + bits, Check.gotRow(x, rows - 1), last);
        }
    }

    private static void refusedNoCode() {
        Check.sentence(14, "0 a fax code that is none (seven bits 0, or 0000001 and no more: it is looked at bit by bit)");
        refused(fax(24, 3), "0000000", 0, 0);
        refused(fax(24, 3), "0000001", 0, 0);
        refused(fax(1, 1), "0000000", 0, 0);
        refused(fax(24, 3), "1 0000001", 1, 0);
        refused(fax(24, 3), "1 010 0000000", 1, 0);
        taken(fax(24, 3), "000000", 0, "");
        taken(fax(3, 1), "0000010 1", 1, "###");
        taken(fax(8, 2), "001 1 0001001 0000011 1", 2, "...#####");
        GenericRegions open = fax(8, 1);
        open.way(2, true);
        refused(open, "0 0000001", 0, 0);
    }

    private static void refusedA1() {
        Check.sentence(14, "1 a place A1 that is not right of P, or beyond the width");
        // B1 is the width
        taken(fax(8, 1), "1", 1, "........");
        refused(fax(8, 1), "011", 0, 1);
        refused(fax(8, 1), "000011", 0, 1);
        refused(fax(8, 1), "0000011", 0, 1);
        // P is -1: A1 of 0 is right of it, -1 and less are not
        taken(fax(1, 1), "010 1", 1, "#");
        taken(fax(2, 1), "000010 1", 1, "##");
        refused(fax(1, 1), "000010", 0, 1);
        refused(fax(1, 1), "0000010", 0, 1);
        refused(fax(2, 1), "0000010", 0, 1);
        // P is 5: A1 of 6 is right of it, 5 is not
        taken(fax(8, 1), "0000010 000010 1", 1, ".....#..");
        refused(fax(8, 1), "0000010 0000010", 0, 1);
        // the row above is black from 6 on: A1 of 8 is not beyond 8, that of 9 is
        taken(fax(8, 2), "000010 1 000011", 2, "........");
        refused(fax(8, 2), "000010 1 0000011", 1, 1);
    }

    private static void refusedB2() {
        Check.sentence(14, "1 a place B2 that is not right of P, or beyond the width (B2: the width itself, too)");
        // above the first row all is white: B2 is the width
        refused(fax(8, 1), "0001", 0, 1);
        refused(fax(1, 1), "0001", 0, 1);
        // black to the last sample: B2 is the width
        refused(fax(8, 2), "001 1 0001001 0001", 1, 1);
        refused(fax(8, 2), "010 1 0001", 1, 1);
        // black but for the last sample: B2 is the width less one
        taken(fax(8, 2), "001 1 0001000 1 0001 1", 2, "........");
        refused(fax(8, 2), "001 1 0001000 1 0001 0001", 1, 1);
        // black: B2 is the next black one, and there is none
        taken(fax(8, 2), "001 1 010 001 010 010 1 1 0001 1 1", 2, "###.....");
        refused(fax(8, 2), "001 1 010 1 1 0001", 1, 1);
    }

    private static void refusedZeros() {
        Check.sentence(14, "2 a number with more than four bits 0");
        refused(fax(24, 2), "001 00000", 0, 2);
        refused(fax(24, 2), "001 1 00000", 0, 2);
        refused(fax(24, 2), "1 001 00000", 1, 2);
        taken(fax(24, 2), "001 0000", 0, "");
        taken(fax(24, 2), "001 1 0000", 0, "");
        taken(fax(24, 1), "001 000011001 1", 1, ".".repeat(24));
        taken(fax(24, 1), "001 1 000011001", 1, "#".repeat(24));
        taken(fax(24, 1), "001 000010000 0001010", 1, ".".repeat(15) + "#".repeat(9));
    }

    private static void refusedNumbersBeyond() {
        Check.sentence(14, "2 numbers that end beyond the width");
        taken(fax(8, 1), "001 1 0001001", 1, "########");
        refused(fax(8, 1), "001 1 0001010", 0, 2);
        taken(fax(8, 1), "001 0001001 1", 1, "........");
        refused(fax(8, 1), "001 0001001 010", 0, 2);
        refused(fax(8, 1), "001 0001010 1", 0, 2);
        taken(fax(8, 1), "001 00100 00110", 1, "...#####");
        refused(fax(8, 1), "001 00100 00111", 0, 2);
        // from P = 5
        taken(fax(8, 1), "0000010 001 011 010", 1, ".....##.");
        refused(fax(8, 1), "0000010 001 011 011", 0, 2);
        // the largest numbers that there are: 30 and 30
        refused(fax(24, 1), "001 000011111 000011111", 0, 2);
        refused(fax(24, 1), "001 000011001 010", 0, 2);
        taken(fax(1, 1), "001 1 010", 1, "#");
        refused(fax(1, 1), "001 010 010", 0, 2);
    }

    private static void refusedNumbersNotRightOfP() {
        Check.sentence(14, "2 numbers that end not right of P");
        refused(fax(8, 1), "0000010 001 1 1", 0, 2);
        refused(fax(8, 1), "001 010 010 001 1 1", 0, 2);
        taken(fax(8, 1), "0000010 001 1 010 010 1", 1, "......#.");
        taken(fax(8, 1), "0000010 001 1 00100", 1, "........");
        taken(fax(8, 1), "0000010 001 00100 1", 1, ".....###");
        // P is -1: they end at 0, right of it, and then not right of it
        refused(fax(8, 1), "001 1 1 001 1 1", 0, 2);
        taken(fax(8, 1), "001 1 1 1", 1, "........");
        taken(fax(8, 1), "001 1 1 001 1 0001001", 1, "########");
    }

    private static void refusedRowMore() {
        Check.sentence(14, "3 a row more than the height");
        refused(open(1, 1), "01 0", 1, 3);
        refused(open(2, 3), "011 000 010 0", 3, 3);
        refused(open(1, 24), "01".repeat(24) + "0", 24, 3);
        taken(open(1, 24), "01".repeat(24) + "1", 24, "#");
        GenericRegions byFax = fax(8, 2);
        byFax.way(2, true);
        refused(byFax, "01 01 0", 2, 3);
        GenericRegions typical = open(3, 2);
        typical.way(0, true);
        refused(typical, "01 00 0", 2, 3);
        GenericRegions none = open(2, 1);
        Check.skipAll(none, 0);
        refused(none, "0 0", 1, 3);
        GenericRegions known = made(1, 2);
        Check.feed(known, "0101010");
        Check.due("not if the height is known", known.read(), 2);
    }

    private static void refusedForGood() {
        Check.sentence(14, "It is REFUSED, for good");
        GenericRegions x = fax(8, 3);
        Check.feed(x, "1 0000000");
        Check.due("refused", x.read(), -1);
        Check.due("again", x.read(), -1);
        Check.feed(x, "1");
        Check.due("with another bit", x.read(), -1);
        x.tell();
        x.pass(99);
        Check.due("with the bits told", x.read(), -1);
        x.put(0, 0, true);
        Check.due("with another region", x.read(), -1);
        Check.argument("way(3)", () -> x.way(3, true));
        Check.index("skip", () -> x.skip(8, 0, true));
        Check.argument("loose", () -> x.loose(0, 0, 0));
        Check.due("calls that throw begin nothing", x.read(), -1);
        Check.due("rows before it", x.told(7), 1);
        Check.due("bits of rows before it", x.told(6), 1);
    }

    private static void refusedAnew() {
        Check.sentence(14, "if it is refused, NONE less why: till reading begins again");
        GenericRegions x = fax(8, 2);
        Check.feed(x, "0000000");
        Check.due("refused", x.read(), -1);
        x.skip(0, 0, true);
        Check.due("the same bits", x.read(), -1);
        x.loose(0, -1, 0);
        Check.due("the same bits", x.read(), -1);
        x.skip(0, 0, false);
        x.way(1, false);
        Check.due("another way", x.read(), 0);
        x.feed(1);
        Check.due("goes on", x.read(), 1);
        Check.due("row", Check.gotRow(x, 0), ".......#");
        x.way(1, true);
        Check.due("by fax again", x.read(), -1);
        x.begin();
        Check.due("no bits", x.read(), 0);
        x.feed(1);
        Check.due("a row", x.read(), 1);
    }

    private static void gotOutside() {
        Check.sentence(15, "IndexOutOfBounds: there is no such sample");
        int[][] sizes = {{1, 1}, {5, 2}, {2, 5}, {24, 24}};
        for (int[] s : sizes) {
            GenericRegions x = made(s[0], s[1]);
            x.row(0, -1);
            x.tell();
            x.pass(MAX);
            x.read();
            int[][] none = {{-1, 0}, {s[0], 0}, {0, -1}, {0, s[1]}, {s[0], s[1]}, {-1, -1}, {MIN, 0}, {MAX, 0}, {0, MIN},
                {0, MAX}, {32, 0}, {0, 32}};
            String before = Check.state(x);
            for (int[] n : none) {
                Check.index("got(" + n[0] + ", " + n[1] + ")", () -> x.got(n[0], n[1]));
            }
            Check.due("nothing changed", Check.state(x), before);
            Check.due("the first", x.got(0, 0), true);
            Check.due("the last", x.got(s[0] - 1, s[1] - 1), s[1] == 1);
        }
    }

    private static void gotWhiteWhereNothingWasRead() {
        Check.sentence(15, "white, where nothing was read yet");
        GenericRegions x = Check.region(0, "##", "##", "##");
        Check.due("no bits", Check.gotRow(x, 0), "..");
        x.tell();
        Check.due("told, but none came", Check.gotRow(x, 0), "..");
        x.pass(3);
        x.read();
        Check.due("a row read", Check.gotRow(x, 0), "##");
        Check.due("a row in part", Check.gotRow(x, 1), "..");
        Check.due("a row without bits", Check.gotRow(x, 2), "..");
        x.pass(3);
        x.read();
        Check.due("the last row", Check.gotRow(x, 2), "##");
        x.skip(0, 0, false);
        Check.due("reading begins again", Check.gotRow(x, 0) + Check.gotRow(x, 2), "....");
        GenericRegions byFax = fax(8, 2);
        Check.feed(byFax, "001 1 0001001 1 0000000");
        Check.due("refused", byFax.read(), -1);
        Check.due("the row before", Check.gotRow(byFax, 0), "########");
        Check.due("the row refused", Check.gotRow(byFax, 1), "........");
        GenericRegions ended = open(2, 2);
        Check.feed(ended, "011 1");
        Check.due("ended", ended.read(), 1);
        Check.due("behind the end", Check.gotRow(ended, 1), "..");
    }

    private static void beginHowManyHadCome() {
        Check.sentence(16, "how many had come");
        GenericRegions x = made(2, 2);
        Check.due("none", x.begin(), 0);
        x.feed(1);
        Check.due("one, not read", x.begin(), 1);
        Check.due("none since", x.begin(), 0);
        x.tell();
        x.pass(9);
        x.feed(0);
        x.read();
        Check.due("read, and one more", x.begin(), 5);
        Check.due("as many as may be", Check.full().begin(), 6000);
    }

    private static void beginReadsNothingOfBefore() {
        Check.sentence(16, "Reading begins again, with no bits");
        GenericRegions x = fax(8, 2);
        Check.feed(x, "001 1 0001001 0000000");
        Check.due("refused", x.read(), -1);
        x.begin();
        for (int what = 5; what <= 8; what++) {
            Check.due("told(" + what + ")", x.told(what), 0);
        }
        Check.due("got", Check.gotRow(x, 0), "........");
        Check.due("read", x.read(), 0);
        x.feed(1);
        Check.due("the row above the first is white again", x.read(), 1);
        Check.due("row", Check.gotRow(x, 0), "........");
        x.way(1, false);
        x.way(0, true);
        x.begin();
        Check.feed(x, "1");
        x.read();
        x.begin();
        Check.feed(x, "1");
        Check.due("before the first: none, again", x.read(), 1);
        x.way(2, true);
        x.begin();
        x.feed(1);
        x.read();
        Check.due("ended", x.told(8), 1);
        x.begin();
        Check.due("ended no more", x.told(8), 0);
        Check.feed(x, "01");
        Check.due("a row", x.read(), 1);
        GenericRegions part = made(2, 1);
        part.feed(1);
        part.read();
        part.begin();
        Check.feed(part, "00");
        Check.due("nothing is left of a row in part", part.read(), 1);
        Check.due("row", Check.gotRow(part, 0), "..");
    }

    private static void beginLeavesTheRest() {
        Check.sentence(16, "Reading begins again: the region, its ways and what was told last stay");
        GenericRegions x = Check.region(0, "#.", "#.");
        x.skip(1, 1, true);
        x.loose(0, -1, 0);
        x.way(0, true);
        x.way(2, true);
        x.tell();
        x.pass(3);
        String bits = Check.toldBits(x);
        x.begin();
        Check.due("bits told last", Check.toldBits(x), bits);
        Check.due("copies", x.copies(), 1);
        Check.due("at", x.at(0, 0), true);
        Check.due("skip", x.skip(1, 1, true), false);
        Check.due("loose", x.loose(0, -1, 0), false);
        Check.due("ways", x.way(0, true) || x.way(2, true) || x.way(1, false), false);
    }

    private static void toldAnotherWhat() {
        Check.sentence(17, "NONE for another what");
        int[] none = {-1, -2, 9, 10, 64, MIN, MAX};
        for (int what : none) {
            Check.due("told(" + what + ")", made(2, 2).told(what), -1);
            Check.due("told(" + what + ")", Check.full().told(what), -1);
        }
    }

    private static void toldOfReading() {
        Check.sentence(17, "bits that came (5), of these read, with whole rows (6), rows read (7), whether all is read (8)");
        GenericRegions x = made(3, 2);
        String[] due = {"0 0 0 0", "1 0 0 0", "2 0 0 0", "3 3 1 0", "4 3 1 0", "5 3 1 0", "6 6 2 1", "7 6 2 1"};
        for (int came = 0; came < due.length; came++) {
            x.read();
            Check.due("with " + came, x.told(5) + " " + x.told(6) + " " + x.told(7) + " " + x.told(8), due[came]);
            x.feed(1);
        }
        Check.due("a bit came that is not read yet", x.told(5), 8);
        Check.due("bits told last", x.told(4), 0);
        GenericRegions full = Check.full();
        full.read();
        Check.due("as many as may be", full.told(5), 6000);
        Check.due("bits read", full.told(6), 576);
        Check.due("rows read", full.told(7), 24);
        Check.due("all", full.told(8), 1);
    }

    private static void clearAllAsAtFirst() {
        Check.sentence(18, "All is as at first");
        for (int template = 0; template <= 3; template++) {
            for (int kinds = 0; kinds < 8; kinds++) {
                GenericRegions x = new GenericRegions(5, 4, template);
                for (int y = 0; y < 4; y++) {
                    x.row(y, 0b10110 + y / 2);
                }
                for (int kind = 0; kind <= 2; kind++) {
                    x.way(kind, (kinds >> kind & 1) == 1);
                }
                x.skip(4, 3, true);
                for (int k = 0; k < x.told(3); k++) {
                    x.loose(k, -8, -8);
                }
                x.tell();
                x.pass(12);
                x.read();
                x.clear();
                Check.due("ways " + kinds, Check.future(x), Check.future(new GenericRegions(5, 4, template)));
            }
        }
        GenericRegions full = Check.full();
        full.clear();
        Check.due("6000 bits", Check.future(full), Check.future(made(24, 24)));
        GenericRegions refused = open(1, 1);
        Check.feed(refused, "010");
        Check.due("refused", refused.read(), -4);
        refused.clear();
        Check.due("a refused one", Check.future(refused), Check.future(made(1, 1)));
    }

    private static void clearOfANewOne() {
        Check.sentence(18, "All is as at first: the sizes and the template stay");
        int[][] sizes = {{1, 1, 0}, {24, 24, 3}, {MIN, MAX, MAX}, {5, 7, 2}};
        for (int[] s : sizes) {
            GenericRegions x = new GenericRegions(s[0], s[1], s[2]);
            x.clear();
            x.clear();
            Check.due("of a new one", Check.future(x), Check.future(new GenericRegions(s[0], s[1], s[2])));
        }
    }
}
