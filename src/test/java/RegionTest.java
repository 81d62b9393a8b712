/** Promises 1 to 8: the region, its samples, skips, loose places, ways and contexts. */
public final class RegionTest {
    private static final int[][][] PLACES = {
        {{-1, 0}, {-2, 0}, {-3, 0}, {-4, 0}, {3, -1}, {2, -1}, {1, -1}, {0, -1}, {-1, -1}, {-2, -1}, {-3, -1},
            {2, -2}, {1, -2}, {0, -2}, {-1, -2}, {-2, -2}},
        {{-1, 0}, {-2, 0}, {-3, 0}, {3, -1}, {2, -1}, {1, -1}, {0, -1}, {-1, -1}, {-2, -1},
            {2, -2}, {1, -2}, {0, -2}, {-1, -2}},
        {{-1, 0}, {-2, 0}, {2, -1}, {1, -1}, {0, -1}, {-1, -1}, {-2, -1}, {1, -2}, {0, -2}, {-1, -2}},
        {{-1, 0}, {-2, 0}, {-3, 0}, {-4, 0}, {2, -1}, {1, -1}, {0, -1}, {-1, -1}, {-2, -1}, {-3, -1}},
    };
    private static final int[][] LOOSE = {{4, 10, 11, 15}, {3}, {2}, {4}};

    private RegionTest() {
    }

    public static void main(String[] args) {
        made(5, 7, 2, 5, 7, 2);
        made(1, 1, 0, 1, 1, 0);
        made(24, 24, 3, 24, 24, 3);
        made(0, 25, 4, 1, 24, 3);
        made(25, 0, -1, 24, 1, 0);
        made(Integer.MIN_VALUE, Integer.MAX_VALUE, Integer.MAX_VALUE, 1, 24, 3);
        made(Integer.MAX_VALUE, Integer.MIN_VALUE, Integer.MIN_VALUE, 24, 1, 0);
        put();
        row();
        noSample();
        skip();
        for (int template = 0; template <= 3; template++) {
            places(template);
            loose(template);
        }
        looseMoves();
        way();
        skippedInContext();
        Check.end();
    }

    private static void made(int width, int height, int template, int w, int h, int t) {
        GenericRegions x = new GenericRegions(width, height, template);
        Check.due("width", x.told(0), w);
        Check.due("height", x.told(1), h);
        Check.due("template", x.told(2), t);
        Check.due("loose places", x.told(3), t == 0 ? 4 : 1);
        for (int what = 4; what <= 8; what++) {
            Check.due("new told(" + what + ")", x.told(what), 0);
        }
        Check.due("new copies", x.copies(), 0);
        boolean black = false;
        for (int y = 0; y < h; y++) {
            for (int i = 0; i < w; i++) {
                black |= x.at(i, y) || x.got(i, y) || x.context(i, y) != 0;
            }
        }
        Check.due("new at, got, context", black, false);
        Check.due("new tell", Check.tell(x), "0".repeat(w * h));
    }

    private static void put() {
        GenericRegions x = new GenericRegions(24, 24, 0);
        Check.due("put white", x.put(23, 23, false), false);
        Check.due("put black", x.put(23, 23, true), true);
        Check.due("put black again", x.put(23, 23, true), false);
        Check.due("at", x.at(23, 23), true);
        Check.due("at beside", x.at(22, 23), false);
        Check.due("at above", x.at(23, 22), false);
        Check.due("put white again", x.put(23, 23, false), true);
        Check.due("at white", x.at(23, 23), false);
        x.put(0, 0, true);
        Check.due("at 0 0", x.at(0, 0), true);
        Check.due("got is not at", x.got(0, 0), false);
    }

    private static void row() {
        GenericRegions x = new GenericRegions(5, 2, 0);
        Check.due("row", x.row(1, 0b10011), 3);
        Check.due("at 0", x.at(0, 1), true);
        Check.due("at 1", x.at(1, 1), true);
        Check.due("at 2", x.at(2, 1), false);
        Check.due("at 4", x.at(4, 1), true);
        Check.due("row above", x.at(0, 0), false);
        Check.due("row beyond", x.row(1, 0b1101000), 1);
        Check.due("at 0 white now", x.at(0, 1), false);
        Check.due("row -1", x.row(0, -1), 5);
        Check.due("row of bits beyond alone", x.row(0, 0xffffffe0), 0);
        Check.due("row -1 of 24", new GenericRegions(24, 1, 0).row(0, -1), 24);
        x.row(0, 31);
        String before = Check.state(x);
        Check.index("row(-1)", () -> x.row(-1, 0));
        Check.index("row(2)", () -> x.row(2, 0));
        Check.due("state", Check.state(x), before);
    }

    private static void noSample() {
        GenericRegions x = new GenericRegions(4, 3, 1);
        x.row(1, 5);
        x.tell();
        x.pass(6);
        x.read();
        String before = Check.state(x);
        int[][] none = {{-1, 0}, {0, -1}, {4, 0}, {0, 3}, {4, 3}, {Integer.MIN_VALUE, 0}, {0, Integer.MAX_VALUE}};
        for (int[] n : none) {
            Check.index("put", () -> x.put(n[0], n[1], true));
            Check.index("at", () -> x.at(n[0], n[1]));
            Check.index("skip", () -> x.skip(n[0], n[1], true));
            Check.index("context", () -> x.context(n[0], n[1]));
            Check.index("got", () -> x.got(n[0], n[1]));
        }
        Check.due("state", Check.state(x), before);
    }

    private static void skip() {
        GenericRegions x = Check.region(0, "##", "##");
        Check.due("skip", x.skip(0, 0, true), true);
        Check.due("skip again", x.skip(0, 0, true), false);
        Check.due("skip off where none is", x.skip(1, 1, false), false);
        Check.due("tell", x.tell(), 3);
        Check.due("at is as before", x.at(0, 0), true);
        x.pass(2);
        Check.due("a row with its skip", x.read(), 1);
        Check.due("got", Check.gotRow(x, 0), ".#");
        Check.due("skip on", x.skip(1, 0, true), true);
        Check.due("begun again, rows", x.told(7), 0);
        Check.due("begun again, bits read", x.told(6), 0);
        Check.due("begun again, bits that came", x.told(5), 2);
        Check.due("begun again, got", x.got(1, 0), false);
        Check.due("read anew", x.read(), 2);
        Check.due("row 0 anew", Check.gotRow(x, 0), "..");
        Check.due("row 1 anew", Check.gotRow(x, 1), "##");
        Check.due("pass goes on", x.pass(9), 1);
        Check.due("skip of the same", x.skip(1, 0, true), false);
        Check.due("begun again all the same", x.told(7), 0);
        Check.due("skip off", x.skip(0, 0, false), true);
        Check.due("told", Check.tell(x), "111");
    }

    private static void places(int template) {
        for (int i = 0; i < PLACES[template].length; i++) {
            GenericRegions x = new GenericRegions(9, 4, template);
            x.put(4 + PLACES[template][i][0], 3 + PLACES[template][i][1], true);
            Check.due("template " + template + " place " + i, x.context(4, 3), 1 << i);
        }
        GenericRegions all = new GenericRegions(24, 24, template);
        for (int y = 0; y < 24; y++) {
            all.row(y, -1);
        }
        Check.due("all black", all.context(12, 12), (1 << PLACES[template].length) - 1);
    }

    private static void loose(int template) {
        GenericRegions x = new GenericRegions(24, 24, template);
        x.put(3, 4, true);
        int count = LOOSE[template].length;
        for (int k = 0; k < count; k++) {
            int[] first = PLACES[template][LOOSE[template][k]];
            Check.due("loose where it is", x.loose(k, first[0], first[1]), false);
            Check.due("loose elsewhere", x.loose(k, -8, -8), true);
            Check.due("loose there again", x.loose(k, -8, -8), false);
            Check.due("context -8 -8", x.context(11, 12), 1 << LOOSE[template][k]);
            x.loose(k, first[0], first[1]);
            Check.due("context back", x.context(11, 12), 0);
        }
        String before = Check.state(x);
        int[][] bad = {{0, 0}, {1, 0}, {8, 0}, {-9, 0}, {-9, -1}, {9, -1}, {0, -9}, {0, 1}, {-1, 1},
            {Integer.MIN_VALUE, -1}, {Integer.MAX_VALUE, -1}, {0, Integer.MIN_VALUE}, {0, Integer.MAX_VALUE}};
        for (int[] b : bad) {
            Check.argument("loose to " + b[0] + " " + b[1], () -> x.loose(count - 1, b[0], b[1]));
            Check.index("no such loose place comes first", () -> x.loose(count, b[0], b[1]));
        }
        Check.index("loose(-1)", () -> x.loose(-1, -1, 0));
        Check.index("loose(count)", () -> x.loose(count, -1, 0));
        Check.due("state", Check.state(x), before);
        int[][] good = {{-1, 0}, {-8, 0}, {8, -1}, {-8, -1}, {8, -8}, {-8, -8}, {0, -1}};
        for (int[] g : good) {
            Check.due("loose to " + g[0] + " " + g[1], x.loose(0, g[0], g[1]), true);
        }
    }

    private static void looseMoves() {
        GenericRegions x = Check.region(2, "#.#", "...");
        x.loose(0, -1, -1);
        Check.due("two places in one", x.context(1, 1), 1 << 2 | 1 << 3 | 1 << 5);
        x.tell();
        Check.due("told with it", x.bit(4, 1), 1 << 2 | 1 << 3 | 1 << 5);
        x.pass(4);
        Check.due("read", x.read(), 1);
        Check.due("loose as it is", x.loose(0, -1, -1), false);
        Check.due("reading begins again", x.told(7), 0);
        Check.due("got white again", x.got(0, 0), false);
        Check.due("bits stay", x.told(5), 4);
        Check.due("read anew", x.read(), 1);
        x.loose(0, 8, -8);
        Check.due("bits read", x.told(6), 0);
        Check.due("pass goes on", x.pass(9), 2);
        Check.due("read whole", x.read(), 2);
        Check.index("first of two", () -> x.loose(1, 9, 9));
        Check.argument("a call that throws begins nothing", () -> x.loose(0, 0, 0));
        Check.due("rows are still read", x.told(7), 2);
    }

    private static void way() {
        GenericRegions x = Check.region(0, "##", "##");
        x.tell();
        x.pass(3);
        Check.due("read", x.read(), 1);
        for (int kind = 0; kind <= 2; kind++) {
            Check.due("way off " + kind, x.way(kind, false), false);
            Check.due("way on " + kind, x.way(kind, true), true);
            Check.due("way on again " + kind, x.way(kind, true), false);
            Check.due("way off again " + kind, x.way(kind, false), true);
        }
        Check.due("begun again", x.told(7), 0);
        Check.due("got", x.got(0, 0), false);
        Check.due("read anew", x.read(), 1);
        String before = Check.state(x);
        int[] none = {-1, 3, Integer.MIN_VALUE, Integer.MAX_VALUE};
        for (int kind : none) {
            Check.argument("way(" + kind + ")", () -> x.way(kind, true));
        }
        Check.due("state", Check.state(x), before);
        Check.due("way on", x.way(2, true), true);
        Check.due("rows", x.told(7), 0);
        Check.due("pass goes on", x.pass(9), 1);
    }

    private static void skippedInContext() {
        GenericRegions x = Check.region(3, "###", "###");
        Check.due("context", x.context(1, 1), 1 | 1 << 4 + 1 | 1 << 4 + 2 | 1 << 4 + 3);
        x.skip(0, 1, true);
        x.skip(2, 0, true);
        Check.due("skipped is white", x.context(1, 1), 1 << 4 + 2 | 1 << 4 + 3);
        x.skip(1, 1, true);
        Check.due("of one skipped", x.context(1, 1), 1 << 4 + 2 | 1 << 4 + 3);
        x.way(1, true);
        Check.due("by fax none is skipped", x.context(1, 1), 1 | 1 << 4 + 1 | 1 << 4 + 2 | 1 << 4 + 3);
        x.way(1, false);
        x.skip(2, 0, false);
        Check.due("skipped no more", x.context(1, 1), 1 << 4 + 1 | 1 << 4 + 2 | 1 << 4 + 3);
    }
}
