/** Promises 1 to 8 at their boundaries: a test for each sentence that names one. */
public final class BoundaryRegionTest {
    private static final int MIN = Integer.MIN_VALUE;
    private static final int MAX = Integer.MAX_VALUE;
    private static final int[] PLACES = {16, 13, 10, 10};
    /** Which of its places are loose, by template. */
    private static final int[][] LOOSE = {{4, 10, 11, 15}, {3}, {2}, {4}};
    private static final int[][][] LOOSE_AT_FIRST = {
        {{3, -1}, {-3, -1}, {2, -2}, {-2, -2}}, {{3, -1}}, {{2, -1}}, {{2, -1}},
    };

    private BoundaryRegionTest() {
    }

    public static void main(String[] args) {
        sizesThatAre();
        sizesTooSmall();
        sizesTooLarge();
        templates();
        allWhiteNoneSkipped();
        nothingToldNothingCame();

        putAnswers();
        putAtTheCorners();
        putOutside();
        putLeavesWhatWasTold();

        rowLowestFirst();
        rowBitsBeyond();
        rowHowManyAreBlack();
        rowOutside();

        atOutside();
        atOfSkipped();

        skipAnswers();
        skipOutside();
        skipBeginsReadingAgain();
        skipLeavesBitsAndPass();

        looseAnswers();
        looseWhereItMayBe();
        looseNoSuchPlace();
        looseFirstOfTwo();
        looseChangesNothingIfItThrows();
        looseBeginsReadingAgain();

        wayAnswers();
        wayAnotherKind();
        wayBeginsReadingAgain();

        contextOutsideIsWhite();
        contextDoesNotWrapAround();
        contextFull();
        contextOfSkipped();
        contextOfTheRegionAsItIs();
        contextNoSuchSample();
        Check.end();
    }

    private static GenericRegions made(int width, int height, int template) {
        return new GenericRegions(width, height, template);
    }

    private static GenericRegions allBlack(int width, int height, int template) {
        GenericRegions x = made(width, height, template);
        for (int y = 0; y < x.told(1); y++) {
            x.row(y, -1);
        }
        return x;
    }

    private static void size(int width, int height, int dueWidth, int dueHeight) {
        GenericRegions x = made(width, height, 0);
        String call = "GenericRegions(" + width + ", " + height + ")";
        Check.due(call + " told(0)", x.told(0), dueWidth);
        Check.due(call + " told(1)", x.told(1), dueHeight);
        Check.due(call + " last sample", x.at(dueWidth - 1, dueHeight - 1), false);
        Check.index(call + " sample right of it", () -> x.at(dueWidth, 0));
        Check.index(call + " sample below it", () -> x.at(0, dueHeight));
        Check.due(call + " tell()", x.tell(), dueWidth * dueHeight);
    }

    private static void sizesThatAre() {
        Check.sentence(1, "A region of this width and height, 1 .. 24");
        for (int side = 1; side <= 24; side++) {
            size(side, 25 - side, side, 25 - side);
            size(side, 24, side, 24);
            size(1, side, 1, side);
        }
    }

    private static void sizesTooSmall() {
        Check.sentence(1, "other numbers count as the nearest of these: too small");
        int[] small = {0, -1, -24, MIN};
        for (int side : small) {
            size(side, 7, 1, 7);
            size(7, side, 7, 1);
            size(side, side, 1, 1);
        }
    }

    private static void sizesTooLarge() {
        Check.sentence(1, "other numbers count as the nearest of these: too large");
        int[] large = {25, 26, 32, 33, 1000, MAX};
        for (int side : large) {
            size(side, 7, 24, 7);
            size(7, side, 7, 24);
            size(side, side, 24, 24);
        }
    }

    private static void templates() {
        Check.sentence(1, "with this template, 0 .. 3 (other numbers count as the nearest of these)");
        int[][] due = {{0, 0}, {1, 1}, {2, 2}, {3, 3}, {-1, 0}, {-4, 0}, {MIN, 0}, {4, 3}, {5, 3}, {MAX, 3}};
        for (int[] d : due) {
            GenericRegions x = made(24, 24, d[0]);
            Check.due("template " + d[0] + " told(2)", x.told(2), d[1]);
            Check.due("template " + d[0] + " told(3)", x.told(3), LOOSE[d[1]].length);
            for (int y = 0; y < 24; y++) {
                x.row(y, -1);
            }
            Check.due("template " + d[0] + " places", Integer.bitCount(x.context(12, 12)), PLACES[d[1]]);
        }
    }

    private static void allWhiteNoneSkipped() {
        Check.sentence(1, "all white, none skipped");
        int[][] sizes = {{1, 1}, {24, 1}, {1, 24}, {24, 24}};
        for (int[] s : sizes) {
            GenericRegions x = made(s[0], s[1], 0);
            for (int y = 0; y < s[1]; y++) {
                for (int i = 0; i < s[0]; i++) {
                    Check.due("at", x.at(i, y), false);
                    Check.due("skip off", x.skip(i, y, false), false);
                }
            }
            Check.due("bits", Check.tell(x), "0".repeat(s[0] * s[1]));
        }
    }

    private static void nothingToldNothingCame() {
        Check.sentence(1, "A new object: nothing is told, nothing came");
        GenericRegions x = made(3, 3, 0);
        for (int what = 4; what <= 8; what++) {
            Check.due("told(" + what + ")", x.told(what), 0);
        }
        Check.due("copies", x.copies(), 0);
        Check.due("pass", x.pass(MAX), 0);
        Check.due("read", x.read(), 0);
        Check.due("begin", x.begin(), 0);
        Check.index("bit(0, 0)", () -> x.bit(0, 0));
        for (int kind = 0; kind <= 2; kind++) {
            Check.due("way off", x.way(kind, false), false);
        }
        for (int template = 0; template <= 3; template++) {
            GenericRegions t = made(3, 3, template);
            for (int k = 0; k < LOOSE[template].length; k++) {
                int[] first = LOOSE_AT_FIRST[template][k];
                Check.due("loose where it is at first", t.loose(k, first[0], first[1]), false);
            }
        }
    }

    private static void putAnswers() {
        Check.sentence(2, "whether it was the other way");
        GenericRegions x = made(2, 2, 0);
        Check.due("white, was white", x.put(1, 1, false), false);
        Check.due("black, was white", x.put(1, 1, true), true);
        Check.due("black, was black", x.put(1, 1, true), false);
        Check.due("white, was black", x.put(1, 1, false), true);
        Check.due("white, was white", x.put(1, 1, false), false);
    }

    private static void putAtTheCorners() {
        Check.sentence(2, "A sample is black or white: the first and the last ones");
        int[][] sizes = {{1, 1}, {24, 1}, {1, 24}, {24, 24}, {5, 3}};
        for (int[] s : sizes) {
            int[][] corners = {{0, 0}, {s[0] - 1, 0}, {0, s[1] - 1}, {s[0] - 1, s[1] - 1}};
            for (int[] c : corners) {
                GenericRegions x = made(s[0], s[1], 0);
                x.put(c[0], c[1], true);
                int black = 0;
                for (int y = 0; y < s[1]; y++) {
                    for (int i = 0; i < s[0]; i++) {
                        black += x.at(i, y) ? 1 : 0;
                    }
                }
                Check.due("at", x.at(c[0], c[1]), true);
                Check.due("how many are black", black, 1);
            }
        }
    }

    /** Places that are none in a region of this size. */
    private static int[][] outside(int width, int height) {
        return new int[][] {{-1, 0}, {width, 0}, {0, -1}, {0, height}, {-1, -1}, {width, height}, {-1, height - 1},
            {width, height - 1}, {width - 1, -1}, {width - 1, height}, {MIN, 0}, {MAX, 0}, {0, MIN}, {0, MAX},
            {MIN, MIN}, {MAX, MAX}, {32, 0}, {0, 32}, {-32, 0}};
    }

    /** An object in the midst of everything: some bits came, a row is read. */
    private static GenericRegions busy(int template) {
        GenericRegions x = made(5, 2, template);
        x.row(0, 0b10110);
        x.row(1, 0b10111);
        x.skip(1, 1, true);
        x.loose(0, -2, -2);
        x.way(2, true);
        x.tell();
        x.pass(8);
        x.read();
        return x;
    }

    private interface Wrong {
        void call(GenericRegions x, int a, int b);
    }

    /** A call with samples that are none throws, and leaves all as it was. */
    private static void noSuchSample(String name, Wrong wrong) {
        GenericRegions x = busy(0);
        for (int[] o : outside(5, 2)) {
            Check.index(name + "(" + o[0] + ", " + o[1] + ")", () -> wrong.call(x, o[0], o[1]));
        }
        Check.due(name + " changes nothing", Check.future(x), Check.future(busy(0)));
        int[][] sizes = {{1, 1}, {24, 24}};
        for (int[] s : sizes) {
            GenericRegions other = made(s[0], s[1], 0);
            for (int[] o : outside(s[0], s[1])) {
                Check.index(name + "(" + o[0] + ", " + o[1] + ")", () -> wrong.call(other, o[0], o[1]));
            }
        }
    }

    private static void putOutside() {
        Check.sentence(2, "IndexOutOfBounds: there is no such sample");
        noSuchSample("put", (x, a, b) -> x.put(a, b, true));
        noSuchSample("put", (x, a, b) -> x.put(a, b, false));
    }

    private static void putLeavesWhatWasTold() {
        Check.sentence(2, "A sample is black or white: not what was told last, nor what was read");
        GenericRegions x = Check.region(0, "#.", "..");
        x.tell();
        x.pass(4);
        x.read();
        x.put(0, 0, false);
        x.put(1, 1, true);
        Check.due("bits", Check.toldBits(x), "1000");
        Check.due("rows read", x.told(7), 2);
        Check.due("got", Check.gotRow(x, 0) + Check.gotRow(x, 1), "#...");
    }

    private static void rowLowestFirst() {
        Check.sentence(3, "A row's samples by bits, the lowest first");
        int[] widths = {1, 2, 23, 24};
        for (int width : widths) {
            for (int i = 0; i < width; i++) {
                GenericRegions x = allBlack(width, 2, 0);
                Check.due("row", x.row(1, 1 << i), 1);
                for (int other = 0; other < width; other++) {
                    Check.due("at " + other + " of bit " + i, x.at(other, 1), other == i);
                    Check.due("at of the row above", x.at(other, 0), true);
                }
            }
        }
    }

    private static void rowBitsBeyond() {
        Check.sentence(3, "bits beyond are passed over");
        int[] widths = {1, 5, 23, 24};
        for (int width : widths) {
            GenericRegions x = made(width, 1, 0);
            Check.due("the first bit beyond", x.row(0, 1 << width), 0);
            Check.due("the highest bit", x.row(0, MIN), 0);
            Check.due("all bits beyond", x.row(0, -1 << width), 0);
            Check.due("none is black", Check.tell(x), "0".repeat(width));
            Check.due("all bits", x.row(0, -1), width);
            Check.due("all bits but the highest", x.row(0, MAX), width);
            x.loose(0, 8, -1);
            Check.due("and none is seen outside", Check.tell(x), "1".repeat(width));
        }
        GenericRegions above = made(3, 2, 0);
        above.row(0, 0xfff8);
        Check.due("not in a context either", above.context(2, 1), 0);
    }

    private static void rowHowManyAreBlack() {
        Check.sentence(3, "how many are black");
        GenericRegions x = made(24, 24, 0);
        Check.due("none", x.row(23, 0), 0);
        Check.due("one", x.row(23, 1), 1);
        Check.due("the others of what was", x.row(23, 0xfffffe), 23);
        Check.due("at that was black before", x.at(0, 23), false);
        Check.due("all", x.row(23, 0xffffff), 24);
        x.skip(0, 23, true);
        Check.due("one that is skipped is black all the same", x.row(23, 0xffffff), 24);
    }

    private static void rowOutside() {
        Check.sentence(3, "IndexOutOfBounds: there is no such row");
        int[] none = {-1, 2, 3, 4, 32, MIN, MAX};
        GenericRegions x = busy(0);
        for (int y : none) {
            Check.index("row(" + y + ")", () -> x.row(y, 0));
            Check.index("row(" + y + ")", () -> x.row(y, -1));
        }
        Check.due("row changes nothing", Check.future(x), Check.future(busy(0)));
        GenericRegions tall = made(1, 24, 0);
        Check.due("the last row", tall.row(23, 1), 1);
        Check.index("row(24)", () -> tall.row(24, 1));
        GenericRegions one = made(24, 1, 0);
        Check.index("row(1)", () -> one.row(1, 1));
    }

    private static void atOutside() {
        Check.sentence(4, "IndexOutOfBounds: there is no such sample");
        noSuchSample("at", (x, a, b) -> x.at(a, b));
    }

    private static void atOfSkipped() {
        Check.sentence(4, "Whether a sample is black: also one that is skipped");
        GenericRegions x = Check.region(0, "#.");
        x.skip(0, 0, true);
        x.skip(1, 0, true);
        Check.due("at of black", x.at(0, 0), true);
        Check.due("at of white", x.at(1, 0), false);
        x.tell();
        Check.due("at once it is told", x.at(0, 0), true);
    }

    private static void skipAnswers() {
        Check.sentence(5, "A sample is skipped, or not: whether it was the other way");
        int[][] places = {{0, 0}, {23, 0}, {0, 23}, {23, 23}};
        for (int[] p : places) {
            GenericRegions x = made(24, 24, 0);
            Check.due("off, was off", x.skip(p[0], p[1], false), false);
            Check.due("on, was off", x.skip(p[0], p[1], true), true);
            Check.due("on, was on", x.skip(p[0], p[1], true), false);
            Check.due("tell", x.tell(), 575);
            Check.due("off, was on", x.skip(p[0], p[1], false), true);
            Check.due("off, was off", x.skip(p[0], p[1], false), false);
            Check.due("tell", x.tell(), 576);
        }
    }

    private static void skipOutside() {
        Check.sentence(5, "IndexOutOfBounds: there is no such sample");
        noSuchSample("skip", (x, a, b) -> x.skip(a, b, true));
        noSuchSample("skip", (x, a, b) -> x.skip(a, b, false));
    }

    private interface Again {
        void call(GenericRegions x);
    }

    private static void begunAgain(GenericRegions x, String name) {
        Check.due(name + " bits read", x.told(6), 0);
        Check.due(name + " rows read", x.told(7), 0);
        Check.due(name + " whether all is read", x.told(8), 0);
        for (int y = 0; y < x.told(1); y++) {
            Check.due(name + " got", Check.gotRow(x, y), ".".repeat(x.told(0)));
        }
    }

    /** Reading begins again: in part read, all read, ended, and refused. */
    private static void beginsAgain(String name, Again again) {
        GenericRegions x = Check.region(0, "#.#", "###", ".##");
        x.tell();
        x.pass(4);
        Check.due("a row", x.read(), 1);
        again.call(x);
        begunAgain(x, name + " in part:");
        Check.due(name + " bits that came", x.told(5), 4);
        Check.due(name + " read anew", x.read(), 1);
        Check.due(name + " got anew", Check.gotRow(x, 0), "#.#");
        x.pass(99);
        Check.due("all rows", x.read(), 3);
        again.call(x);
        begunAgain(x, name + " all:");
        Check.due(name + " read anew", x.read(), 3);
        Check.due(name + " all is read anew", x.told(8), 1);
        x.way(2, true);
        x.begin();
        Check.feed(x, "0111 1 0");
        Check.due("ended by a bit", x.read(), 1);
        again.call(x);
        begunAgain(x, name + " ended:");
        Check.due(name + " ended anew", x.read(), 1);
        x.begin();
        Check.feed(x, "0111 0111 0000 0");
        Check.due("refused", x.read(), -4);
        again.call(x);
        begunAgain(x, name + " refused:");
        Check.due(name + " refused anew", x.read(), -4);
        Check.due(name + " rows before it", x.told(7), 3);
    }

    private static void skipBeginsReadingAgain() {
        Check.sentence(5, "Reading begins again");
        beginsAgain("skip as it is", x -> x.skip(2, 2, false));
        beginsAgain("skip on and off", x -> {
            x.skip(2, 2, true);
            x.skip(2, 2, false);
        });
        GenericRegions x = made(2, 1, 0);
        Check.feed(x, "1");
        Check.due("a bit lacks", x.read(), 0);
        x.skip(0, 0, true);
        Check.due("none lacks now", x.read(), 1);
        Check.due("row", Check.gotRow(x, 0), ".#");
    }

    private static void skipLeavesBitsAndPass() {
        Check.sentence(5, "bits that came stay, and are read anew; pass() goes on where it was");
        goesOn("skip", x -> x.skip(0, 0, false));
    }

    private static void goesOn(String name, Again again) {
        GenericRegions x = Check.region(0, "#.#.");
        again.call(x);
        Check.due(name + " with no bits", x.told(5), 0);
        x.tell();
        again.call(x);
        Check.due("the first bits", x.pass(3), 3);
        again.call(x);
        Check.due(name + " bits that came", x.told(5), 3);
        Check.due(name + " the rest alone", x.pass(99), 1);
        Check.due(name + " read", x.read(), 1);
        Check.due(name + " row", Check.gotRow(x, 0), "#.#.");
        again.call(x);
        Check.due(name + " none are left", x.pass(99), 0);
        GenericRegions full = Check.full();
        again.call(full);
        Check.due(name + " as many bits as may be", full.told(5), 6000);
        Check.unsupported(name + " it is still full", () -> full.feed(0));
    }

    private static void looseAnswers() {
        Check.sentence(6, "A loose place is elsewhere: whether it was");
        for (int template = 0; template <= 3; template++) {
            GenericRegions x = made(24, 24, template);
            for (int k = 0; k < LOOSE[template].length; k++) {
                int[] first = LOOSE_AT_FIRST[template][k];
                Check.due("where it is at first", x.loose(k, first[0], first[1]), false);
                Check.due("elsewhere to the right alone", x.loose(k, first[0] + 1, first[1]), true);
                Check.due("where it is", x.loose(k, first[0] + 1, first[1]), false);
                Check.due("elsewhere downward alone", x.loose(k, first[0] + 1, first[1] - 1), true);
                Check.due("where it is", x.loose(k, first[0] + 1, first[1] - 1), false);
                Check.due("back", x.loose(k, first[0], first[1]), true);
            }
        }
    }

    private static void looseWhereItMayBe() {
        Check.sentence(6, "A loose place may be -8 .. 8 to the right and -8 .. 0 downward,"
            + " and in the row of the sample only -8 .. -1 to the right");
        for (int template = 0; template <= 3; template++) {
            for (int k = 0; k < LOOSE[template].length; k++) {
                GenericRegions x = made(24, 24, template);
                for (int dy = -10; dy <= 2; dy++) {
                    for (int dx = -10; dx <= 10; dx++) {
                        loosePlace(x, k, dx, dy, LOOSE[template][k]);
                    }
                }
            }
        }
    }

    private static void loosePlace(GenericRegions x, int k, int dx, int dy, int place) {
        boolean may = dy < 0 ? dy >= -8 && dx >= -8 && dx <= 8 : dy == 0 && dx >= -8 && dx <= -1;
        if (!may) {
            Check.argument("loose(" + k + ", " + dx + ", " + dy + ")", () -> x.loose(k, dx, dy));
            return;
        }
        x.loose(k, dx, dy);
        x.put(12 + dx, 12 + dy, true);
        Check.due("context with " + dx + " " + dy, x.context(12, 12) >> place & 1, 1);
        x.put(12 + dx, 12 + dy, false);
        Check.due("context without " + dx + " " + dy, x.context(12, 12), 0);
    }

    private static void looseNoSuchPlace() {
        Check.sentence(6, "IndexOutOfBounds: there is no such loose place");
        for (int template = 0; template <= 3; template++) {
            GenericRegions x = made(4, 4, template);
            int count = LOOSE[template].length;
            int[] none = {-1, count, count + 1, 16, MIN, MAX};
            for (int k : none) {
                Check.index("loose(" + k + ")", () -> x.loose(k, -1, -1));
            }
            Check.due("the last one", x.loose(count - 1, -1, -1), true);
        }
    }

    private static void looseFirstOfTwo() {
        Check.sentence(6, "Of several that a call names, the first one");
        GenericRegions x = made(4, 4, 0);
        int[] none = {-1, 4, MIN, MAX};
        for (int k : none) {
            Check.index("no such place, and it may not be there", () -> x.loose(k, 0, 0));
            Check.index("no such place, and it may not be there", () -> x.loose(k, 9, -9));
        }
        int[][] far = {{MIN, -1}, {MAX, -1}, {-1, MIN}, {-1, MAX}, {MIN, MIN}, {MAX, MAX}, {MAX, 0}, {MIN, 0}};
        for (int[] f : far) {
            Check.argument("it may not be there", () -> x.loose(0, f[0], f[1]));
        }
    }

    private static void looseChangesNothingIfItThrows() {
        Check.sentence(6, "A call that throws changes nothing");
        for (int template = 0; template <= 3; template++) {
            GenericRegions x = busy(template);
            int count = LOOSE[template].length;
            Check.argument("loose", () -> x.loose(0, 0, 0));
            Check.argument("loose", () -> x.loose(count - 1, 9, -1));
            Check.index("loose", () -> x.loose(count, -1, -1));
            Check.index("loose", () -> x.loose(-1, -1, -1));
            Check.due("all is as before", Check.future(x), Check.future(busy(template)));
        }
    }

    private static void looseBeginsReadingAgain() {
        Check.sentence(6, "Reading begins again");
        beginsAgain("loose as it is", x -> x.loose(0, 3, -1));
        beginsAgain("loose elsewhere", x -> x.loose(3, x.told(5) % 5 - 8, -8));
        goesOn("loose", x -> x.loose(1, -1, 0));
    }

    private static void wayAnswers() {
        Check.sentence(7, "on or not (at first not): whether it was the other way");
        for (int kind = 0; kind <= 2; kind++) {
            GenericRegions x = made(2, 2, 0);
            Check.due("off, at first", x.way(kind, false), false);
            Check.due("on, was off", x.way(kind, true), true);
            Check.due("on, was on", x.way(kind, true), false);
            for (int other = 0; other <= 2; other++) {
                if (other != kind) {
                    Check.due("another one is still off", x.way(other, false), false);
                }
            }
            Check.due("off, was on", x.way(kind, false), true);
            Check.due("off, was off", x.way(kind, false), false);
        }
        GenericRegions x = made(2, 2, 0);
        for (int kind = 0; kind <= 2; kind++) {
            x.way(kind, true);
        }
        for (int kind = 0; kind <= 2; kind++) {
            Check.due("all may be on at once", x.way(kind, true), false);
        }
    }

    private static void wayAnotherKind() {
        Check.sentence(7, "IllegalArgument: another kind");
        GenericRegions x = busy(0);
        int[] none = {-1, 3, 4, MIN, MAX};
        for (int kind : none) {
            Check.argument("way(" + kind + ", on)", () -> x.way(kind, true));
            Check.argument("way(" + kind + ", off)", () -> x.way(kind, false));
        }
        Check.due("way changes nothing", Check.future(x), Check.future(busy(0)));
    }

    private static void wayBeginsReadingAgain() {
        Check.sentence(7, "Reading begins again");
        for (int k = 0; k <= 1; k++) {
            int kind = k;
            beginsAgain("way as it is", x -> x.way(kind, false));
            beginsAgain("way on and off", x -> {
                x.way(kind, true);
                x.way(kind, false);
            });
            goesOn("way", x -> x.way(kind, false));
        }
        goesOn("way", x -> x.way(2, false));
        beginsAgain("open as it is", x -> {
            boolean was = !x.way(2, true);
            x.way(2, was);
        });
        GenericRegions x = made(3, 1, 0);
        x.way(0, true);
        Check.feed(x, "101");
        Check.due("a copy", x.read(), 1);
        Check.due("its row", Check.gotRow(x, 0), "...");
        x.way(0, false);
        Check.due("the same bits by samples", x.read(), 1);
        Check.due("its row", Check.gotRow(x, 0), "#.#");
        x.way(1, true);
        Check.due("by fax", x.read(), 1);
        Check.due("its row", Check.gotRow(x, 0), "...");
        Check.due("bits read", x.told(6), 1);
        x.way(2, true);
        Check.due("by fax and open: ended by the first bit", x.read(), 0);
        Check.due("all", x.told(8), 1);
    }

    private static void contextOutsideIsWhite() {
        Check.sentence(8, "Outside of the region all is white");
        for (int template = 0; template <= 3; template++) {
            Check.due("1 x 1", allBlack(1, 1, template).context(0, 0), 0);
            GenericRegions x = allBlack(24, 24, template);
            Check.due("the first sample", x.context(0, 0), 0);
            for (int k = 0; k < LOOSE[template].length; k++) {
                x.loose(k, -8, -8);
                Check.due("-8 -8 from 7 8", x.context(7, 8) >> LOOSE[template][k] & 1, 0);
                Check.due("-8 -8 from 8 7", x.context(8, 7) >> LOOSE[template][k] & 1, 0);
                Check.due("-8 -8 from 8 8", x.context(8, 8) >> LOOSE[template][k] & 1, 1);
                x.loose(k, 8, -8);
                Check.due("8 -8 from 16 8", x.context(16, 8) >> LOOSE[template][k] & 1, 0);
                Check.due("8 -8 from 15 8", x.context(15, 8) >> LOOSE[template][k] & 1, 1);
                x.loose(k, -8, 0);
                Check.due("-8 0 from 7 23", x.context(7, 23) >> LOOSE[template][k] & 1, 0);
                Check.due("-8 0 from 8 0", x.context(8, 0) >> LOOSE[template][k] & 1, 1);
            }
        }
        // the row of the sample alone: as many of its places as there are samples left of it
        int[] inRow = {4, 3, 2, 4};
        for (int template = 0; template <= 3; template++) {
            GenericRegions x = allBlack(24, 1, template);
            for (int i = 0; i < 24; i++) {
                Check.due("in the first row", x.context(i, 0), (1 << Math.min(i, inRow[template])) - 1);
            }
        }
    }

    private static void contextDoesNotWrapAround() {
        Check.sentence(8, "Outside of the region all is white: the end of a row is not left of the next one");
        for (int template = 0; template <= 3; template++) {
            // black is far from the places of the sample, but near if a row went on in the next one
            GenericRegions x = made(24, 3, template);
            x.row(0, -1 << 4);
            x.row(1, -1 << 4);
            Check.due("context of the first column", x.context(0, 2), 0);
            GenericRegions last = made(24, 3, template);
            last.row(0, 0xfffff);
            last.row(1, 0xfffff);
            last.row(2, 0x3ffff);
            Check.due("context of the last column", last.context(23, 2), 0);
            GenericRegions below = made(24, 24, template);
            below.row(23, -1);
            below.row(22, -1);
            Check.due("context of the first row", below.context(12, 0), 0);
        }
    }

    private static void contextFull() {
        Check.sentence(8, "a number with a bit for each place, the lowest for the first");
        int[] due = {65535, 8191, 1023, 1023};
        for (int template = 0; template <= 3; template++) {
            Check.due("all black", allBlack(24, 24, template).context(12, 12), due[template]);
            GenericRegions x = made(24, 24, template);
            x.put(11, 12, true);
            Check.due("the first place", x.context(12, 12), 1);
            x.put(11, 12, false);
            for (int k = 0; k < LOOSE[template].length; k++) {
                x.loose(k, -8, -7);
            }
            x.put(4, 5, true);
            int loose = 0;
            for (int place : LOOSE[template]) {
                loose |= 1 << place;
            }
            Check.due("all loose ones at one place", x.context(12, 12), loose);
            x.loose(0, -1, 0);
            x.put(11, 12, true);
            Check.due("a loose one where another place is", x.context(12, 12), loose | 1);
            x.put(12, 12, true);
            x.put(13, 12, true);
            x.put(12, 13, true);
            Check.due("neither the sample nor those behind it", x.context(12, 12), loose | 1);
        }
    }

    private static void contextOfSkipped() {
        Check.sentence(8, "1, if the sample there is told as black: a sample that is skipped is told as white");
        for (int template = 0; template <= 3; template++) {
            GenericRegions x = allBlack(24, 3, template);
            for (int y = 0; y < 3; y++) {
                for (int i = 0; i < 24; i++) {
                    x.skip(i, y, true);
                }
            }
            Check.due("all skipped", x.context(12, 2), 0);
            x.skip(11, 2, false);
            Check.due("all but one", x.context(12, 2), 1);
            x.skip(12, 2, false);
            Check.due("whether it is skipped itself is not seen", x.context(12, 2), 1);
        }
    }

    private static void contextOfTheRegionAsItIs() {
        Check.sentence(8, "of the region as it is: not as it was told last");
        GenericRegions x = Check.region(0, "#.");
        x.tell();
        x.put(0, 0, false);
        Check.due("context", x.context(1, 0), 0);
        Check.due("context of the bit told", x.bit(1, 1), 1);
        x.pass(2);
        x.read();
        Check.due("not as it is read", x.context(1, 0), 0);
    }

    private static void contextNoSuchSample() {
        Check.sentence(8, "IndexOutOfBounds: there is no such sample");
        noSuchSample("context", (x, a, b) -> x.context(a, b));
    }
}
