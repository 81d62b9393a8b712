import java.util.ArrayList;
import java.util.HashMap;
import java.util.List;
import java.util.Map;

/** The document written a second time, with lists and texts, to compare the class with. */
final class Model {
    /** That reading must wait for more bits. */
    private static final class Lack extends RuntimeException {
        private static final long serialVersionUID = 1L;
    }

    /** That reading is refused. */
    private static final class Refused extends RuntimeException {
        private static final long serialVersionUID = 1L;
        final int why;

        Refused(int why) {
            this.why = why;
        }
    }

    private static final String[] TEMPLATES = {
        "-1 0, -2 0, -3 0, -4 0, (3 -1), 2 -1, 1 -1, 0 -1, -1 -1, -2 -1, (-3 -1), (2 -2), 1 -2, 0 -2, -1 -2, (-2 -2)",
        "-1 0, -2 0, -3 0, (3 -1), 2 -1, 1 -1, 0 -1, -1 -1, -2 -1, 2 -2, 1 -2, 0 -2, -1 -2",
        "-1 0, -2 0, (2 -1), 1 -1, 0 -1, -1 -1, -2 -1, 1 -2, 0 -2, -1 -2",
        "-1 0, -2 0, -3 0, -4 0, (2 -1), 1 -1, 0 -1, -1 -1, -2 -1, -3 -1",
    };
    private static final int[] TYPICAL = {39717, 1941, 229, 405};
    private static final Map<String, String> CODES = new HashMap<>();

    static {
        CODES.put("0001", "pass");
        CODES.put("001", "runs");
        CODES.put("1", "0");
        CODES.put("011", "1");
        CODES.put("000011", "2");
        CODES.put("0000011", "3");
        CODES.put("010", "-1");
        CODES.put("000010", "-2");
        CODES.put("0000010", "-3");
    }

    final int width;
    final int height;
    final int template;
    boolean[][] black;
    boolean[][] skipped;
    List<int[]> places;
    List<Integer> loosePlaces;
    boolean[] ways;
    List<int[]> told;
    int copies;
    List<Integer> came;
    int passed;
    boolean[][] got;
    int rows;
    int bitsRead;
    boolean ended;
    boolean copyBefore;
    int refusal;
    private int next;

    Model(int width, int height, int template) {
        this.width = width;
        this.height = height;
        this.template = template;
        clear();
    }

    void clear() {
        black = new boolean[height][width];
        skipped = new boolean[height][width];
        places = new ArrayList<>();
        loosePlaces = new ArrayList<>();
        for (String place : TEMPLATES[template].split(", ")) {
            if (place.startsWith("(")) {
                loosePlaces.add(places.size());
            }
            String[] two = place.replace("(", "").replace(")", "").split(" ");
            places.add(new int[] {Integer.parseInt(two[0]), Integer.parseInt(two[1])});
        }
        ways = new boolean[3];
        told = new ArrayList<>();
        copies = 0;
        came = new ArrayList<>();
        passed = 0;
        restart();
    }

    void restart() {
        got = new boolean[height][width];
        rows = 0;
        bitsRead = 0;
        ended = false;
        copyBefore = false;
        refusal = -1;
    }

    private boolean toldBlack(int x, int y) {
        return x >= 0 && x < width && y >= 0 && y < height && black[y][x] && (ways[1] || !skipped[y][x]);
    }

    int context(int x, int y) {
        int number = 0;
        for (int i = 0; i < places.size(); i++) {
            if (toldBlack(x + places.get(i)[0], y + places.get(i)[1])) {
                number += (int) Math.pow(2, i);
            }
        }
        return number;
    }

    int tell() {
        told.clear();
        copies = 0;
        passed = 0;
        boolean before = false;
        for (int y = 0; y < height; y++) {
            if (ways[2]) {
                told.add(new int[] {0, 65536, y});
            }
            if (ways[1]) {
                for (char c : faxCodes(shown(y - 1), shown(y)).toCharArray()) {
                    told.add(new int[] {c - '0', 65537, y});
                }
                continue;
            }
            boolean copy = false;
            if (ways[0]) {
                copy = shown(y).equals(shown(y - 1));
                told.add(new int[] {copy ^ before ? 1 : 0, TYPICAL[template], y});
                before = copy;
            }
            if (copy) {
                copies++;
                continue;
            }
            for (int x = 0; x < width; x++) {
                if (!skipped[y][x]) {
                    told.add(new int[] {black[y][x] ? 1 : 0, context(x, y), y});
                }
            }
        }
        if (ways[2]) {
            told.add(new int[] {1, 65536, height});
        }
        return told.size();
    }

    private String shown(int y) {
        StringBuilder row = new StringBuilder();
        for (int x = 0; x < width; x++) {
            row.append(toldBlack(x, y) ? '#' : '.');
        }
        return row.toString();
    }

    private static int find(String row, char colour, int from) {
        int x = row.indexOf(colour, from);
        return x < 0 ? row.length() : x;
    }

    private static char other(char colour) {
        return colour == '#' ? '.' : '#';
    }

    private static int b1(String above, int p, char colour) {
        // with the white outside in front, a place is one further
        int x = ('.' + above).indexOf("" + colour + other(colour), p + 1);
        return x < 0 ? above.length() : x;
    }

    private static String faxCodes(String above, String row) {
        StringBuilder all = new StringBuilder();
        int p = -1;
        char colour = '.';
        while (p < row.length()) {
            int a1 = find(row, other(colour), p + 1);
            int b1 = b1(above, p, colour);
            int b2 = find(above, colour, Math.min(b1 + 1, above.length()));
            if (b2 < a1) {
                all.append("0001");
                p = b2;
            } else if (Math.abs(a1 - b1) <= 3) {
                for (Map.Entry<String, String> code : CODES.entrySet()) {
                    if (code.getValue().equals("" + (a1 - b1))) {
                        all.append(code.getKey());
                    }
                }
                p = a1;
                colour = other(colour);
            } else {
                int a2 = find(row, colour, Math.min(a1 + 1, row.length()));
                all.append("001").append(number(a1 - Math.max(p, 0))).append(number(a2 - a1));
                p = a2;
            }
        }
        return all.toString();
    }

    private static String number(int n) {
        String digits = Integer.toBinaryString(n + 1);
        return "0".repeat(digits.length() - 1) + digits;
    }

    int read() {
        try {
            while (!ended && refusal < 0) {
                next = bitsRead;
                readRow();
            }
        } catch (Lack e) {
            return rows;
        } catch (Refused e) {
            refusal = e.why;
        }
        return refusal < 0 ? rows : -1 - refusal;
    }

    private int take() {
        if (next >= came.size()) {
            throw new Lack();
        }
        return came.get(next++);
    }

    private void readRow() {
        if (ways[2]) {
            if (take() == 1) {
                ended = true;
                bitsRead = next;
                return;
            }
            if (rows == height) {
                throw new Refused(3);
            }
        }
        boolean copy = false;
        boolean[] row = new boolean[width];
        if (ways[1]) {
            row = readFax();
        } else {
            if (ways[0]) {
                copy = take() == 1 ? !copyBefore : copyBefore;
            }
            if (copy) {
                row = rows == 0 ? row : got[rows - 1].clone();
            } else {
                for (int x = 0; x < width; x++) {
                    row[x] = !skipped[rows][x] && take() == 1;
                }
            }
        }
        copyBefore = copy;
        got[rows++] = row;
        bitsRead = next;
        if (!ways[2] && rows == height) {
            ended = true;
        }
    }

    private boolean[] readFax() {
        StringBuilder above = new StringBuilder();
        for (int x = 0; x < width; x++) {
            above.append(rows > 0 && got[rows - 1][x] ? '#' : '.');
        }
        StringBuilder row = new StringBuilder();
        int p = -1;
        char colour = '.';
        while (p < width) {
            String code = "";
            while (!CODES.containsKey(code)) {
                if (code.length() == 7) {
                    throw new Refused(0);
                }
                code += take();
            }
            String step = CODES.get(code);
            int b1 = b1(above.toString(), p, colour);
            if (step.equals("pass")) {
                int b2 = find(above.toString(), colour, Math.min(b1 + 1, width));
                if (b2 <= p || b2 >= width) {
                    throw new Refused(1);
                }
                p = b2;
                fill(row, colour, p);
            } else if (step.equals("runs")) {
                int a1 = Math.max(p, 0) + takeNumber();
                int a2 = a1 + takeNumber();
                if (a2 <= p || a2 > width) {
                    throw new Refused(2);
                }
                fill(row, colour, a1);
                fill(row, other(colour), a2);
                p = a2;
            } else {
                int a1 = b1 + Integer.parseInt(step);
                if (a1 <= p || a1 > width) {
                    throw new Refused(1);
                }
                p = a1;
                fill(row, colour, p);
                colour = other(colour);
            }
        }
        boolean[] samples = new boolean[width];
        for (int x = 0; x < width; x++) {
            samples[x] = row.charAt(x) == '#';
        }
        return samples;
    }

    private static void fill(StringBuilder row, char colour, int to) {
        while (row.length() < to) {
            row.append(colour);
        }
    }

    private int takeNumber() {
        String zeros = "";
        while (take() == 0) {
            zeros += "0";
            if (zeros.length() > 4) {
                throw new Refused(2);
            }
        }
        String digits = "1";
        while (digits.length() <= zeros.length()) {
            digits += take();
        }
        return Integer.parseInt(digits, 2) - 1;
    }
}
