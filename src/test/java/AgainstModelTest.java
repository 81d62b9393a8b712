/** Long runs of calls, chosen by a fixed rule, each answer compared with the model's. */
public final class AgainstModelTest {
    private static final int RUNS = 3000;
    private static final int CALLS = 400;

    private static long seed = 20261115;

    private AgainstModelTest() {
    }

    public static void main(String[] args) {
        for (int run = 0; run < RUNS; run++) {
            int width = run % 3 == 0 ? 1 + pick(24) : 1 + pick(9);
            int height = run % 7 == 0 ? 1 + pick(24) : 1 + pick(6);
            Pair pair = new Pair(width, height, pick(4));
            for (int i = 0; i < CALLS; i++) {
                pair.call();
            }
        }
        longestFax();
        Check.end();
    }

    static int pick(int below) {
        seed = seed * 6364136223846793005L + 1442695040888963407L;
        return (int) ((seed >>> 33) % below);
    }

    /** Regions whose fax codes are long: what is told must have room. */
    private static void longestFax() {
        int most = 0;
        for (int period = 1; period <= 12; period++) {
            for (int shift = 0; shift < 24; shift++) {
                for (int kind = 0; kind < 8; kind++) {
                    Pair pair = new Pair(24, 24, 0);
                    pair.way(1, true);
                    pair.way(2, true);
                    for (int y = 0; y < 24; y++) {
                        pair.row(y, stripes(period, kind, y * shift));
                    }
                    pair.tell();
                    most = Math.max(most, pair.x.told(4));
                    pair.passAndRead(6000);
                }
            }
        }
        Check.due("some region is told long", most > 1500, true);
    }

    private static int stripes(int period, int kind, int shift) {
        int bits = 0;
        for (int x = 0; x < 24; x++) {
            boolean on = (x + shift) / period % 2 == 0;
            if ((kind & 1) != 0) {
                on = (x + shift) % (period + 1) == 0;
            }
            if ((kind & 2) != 0 && shift % 2 != 0) {
                on = !on;
            }
            if ((kind & 4) != 0 && shift / 2 % 2 != 0) {
                on = false;
            }
            bits |= on ? 1 << x : 0;
        }
        return bits;
    }

    /** An object and its model, which get the same calls. */
    private static final class Pair {
        final GenericRegions x;
        final Model m;

        Pair(int width, int height, int template) {
            x = new GenericRegions(width, height, template);
            m = new Model(width, height, template);
        }

        void call() {
            int column = pick(m.width);
            int y = pick(m.height);
            switch (pick(20)) {
                case 0: put(column, y, pick(2) == 0); break;
                case 1: case 2: row(y, someBits(y)); break;
                case 3: if (pick(3) == 0) skip(column, y, pick(3) != 0); break;
                case 4: if (pick(3) == 0) loose(pick(m.loosePlaces.size())); break;
                case 5: if (pick(3) == 0) way(pick(3), pick(2) == 0); break;
                case 6: Check.due("context", x.context(column, y), m.context(column, y)); break;
                case 7: case 8: tell(); break;
                case 9: case 10: case 11: passAndRead(pick(60)); break;
                case 12: feed(); break;
                case 13: read(); break;
                case 14: if (pick(3) == 0) begin(); break;
                case 15: Check.due("at", x.at(column, y), m.black[y][column]); break;
                case 16: Check.due("copies", x.copies(), m.copies); break;
                case 17: passAndRead(6000); break;
                case 18: wrong(); break;
                default: if (pick(20) == 0) clear(); break;
            }
            same();
        }

        private int someBits(int y) {
            int bits = pick(1 << 24);
            if (pick(3) == 0 && y > 0) {
                bits = 0;
                for (int i = 0; i < m.width; i++) {
                    bits |= m.black[y - 1][i] ? 1 << i : 0;
                }
            } else if (pick(2) == 0) {
                bits = -1 << pick(24) & -1 >>> pick(32);
            }
            return bits;
        }

        void put(int column, int y, boolean black) {
            Check.due("put", x.put(column, y, black), m.black[y][column] != black);
            m.black[y][column] = black;
        }

        void row(int y, int bits) {
            int count = 0;
            for (int i = 0; i < m.width; i++) {
                m.black[y][i] = (bits >>> i & 1) == 1;
                count += m.black[y][i] ? 1 : 0;
            }
            Check.due("row", x.row(y, bits), count);
        }

        void skip(int column, int y, boolean on) {
            Check.due("skip", x.skip(column, y, on), m.skipped[y][column] != on);
            m.skipped[y][column] = on;
            m.restart();
        }

        void loose(int k) {
            int dy = -pick(9);
            int dx = dy == 0 ? -1 - pick(8) : pick(17) - 8;
            int[] place = m.places.get(m.loosePlaces.get(k));
            Check.due("loose", x.loose(k, dx, dy), place[0] != dx || place[1] != dy);
            place[0] = dx;
            place[1] = dy;
            m.restart();
        }

        void way(int kind, boolean on) {
            Check.due("way", x.way(kind, on), m.ways[kind] != on);
            m.ways[kind] = on;
            m.restart();
        }

        void tell() {
            Check.due("tell", x.tell(), m.tell());
            for (int i = 0; i < Math.min(m.told.size(), x.told(4)); i++) {
                for (int what = 0; what < 3; what++) {
                    Check.due("bit(" + i + ", " + what + ")", x.bit(i, what), m.told.get(i)[what]);
                }
            }
        }

        void passAndRead(int many) {
            int coming = Math.min(many, m.told.size() - m.passed);
            if (m.came.size() + coming > 6000) {
                Check.unsupported("pass", () -> x.pass(many));
            } else {
                Check.due("pass", x.pass(many), coming);
                for (int i = 0; i < coming; i++) {
                    m.came.add(m.told.get(m.passed++)[0]);
                }
            }
            if (pick(3) != 0) {
                read();
            }
        }

        /** A call that throws, in the midst of others: what follows shows that it changed nothing. */
        private void wrong() {
            int beyond = pick(2) == 0 ? -9 - pick(30) : 24 + pick(30);
            switch (pick(10)) {
                case 0: Check.index("put", () -> x.put(beyond, 0, true)); break;
                case 1: Check.index("row", () -> x.row(beyond, -1)); break;
                case 2: Check.index("skip", () -> x.skip(0, beyond, true)); break;
                case 3: Check.index("loose", () -> x.loose(beyond, -1, 0)); break;
                case 4: Check.argument("loose", () -> x.loose(0, beyond, -1)); break;
                case 5: Check.argument("way", () -> x.way(beyond, true)); break;
                case 6: Check.argument("feed", () -> x.feed(beyond)); break;
                case 7: Check.argument("pass", () -> x.pass(-1 - Math.abs(beyond))); break;
                case 8: Check.index("bit", () -> x.bit(beyond < 0 ? beyond : m.told.size(), 0)); break;
                default: Check.index("got", () -> x.got(m.width, 0)); break;
            }
        }

        void feed() {
            for (int i = pick(12); i > 0 && m.came.size() < 6000; i--) {
                int bit = pick(2);
                m.came.add(bit);
                Check.due("feed", x.feed(bit), m.came.size());
            }
        }

        void read() {
            Check.due("read", x.read(), m.read());
        }

        void begin() {
            Check.due("begin", x.begin(), m.came.size());
            m.came.clear();
            m.passed = 0;
            m.restart();
        }

        void clear() {
            x.clear();
            m.clear();
        }

        private void same() {
            int[] due = {m.width, m.height, m.template, m.loosePlaces.size(), m.told.size(), m.came.size(),
                m.bitsRead, m.rows, m.ended ? 1 : 0};
            for (int what = 0; what < due.length; what++) {
                Check.due("told(" + what + ")", x.told(what), due[what]);
            }
            for (int y = 0; y < m.height; y++) {
                for (int i = 0; i < m.width; i++) {
                    Check.due("got", x.got(i, y), m.got[y][i]);
                }
            }
        }
    }
}
