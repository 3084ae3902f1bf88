import java.util.ArrayDeque;
import java.util.ArrayList;
import java.util.Arrays;
import java.util.Deque;
import java.util.List;
import java.util.regex.Pattern;

/**
 * The document once more, grain by grain and without a thought for speed or room: what it answers is due. It shares
 * no code and no way of holding the state with the program.
 */
final class Model {
    private static final int[] LEAST = {1, 1, 1, 1, 5};
    private static final int[] MOST = {200, 200, 200, 400, 100};
    private static final Pattern TEXT = Pattern.compile("BED(;BED)*"
        .replace("BED", "(1[01]|[0-9]):LAYER(,LAYER)*").replace("LAYER", "[fmc][1-9][0-9]?"));
    // Each text that has a chance is made whole by one of these.
    private static final String[] ENDS = {"", "1", "f1", ":f1", "0:f1"};

    /** What undo and restore bring back. A bed is a text of its grains, 0, 1 or 2, from below. */
    private static final class State {
        int[] settings = {4, 12, 30, 60, 30};
        int[] rock = new int[12];
        StringBuilder[] beds = new StringBuilder[12];
        int[] sea = new int[3];
        int became, laid, dug, showers, fell;

        State() {
            for (int k = 0; k < 12; k++) {
                rock[k] = 120 - 10 * k;
                beds[k] = new StringBuilder();
            }
        }

        State copy() {
            State copy = new State();
            copy.settings = settings.clone();
            copy.rock = rock.clone();
            for (int k = 0; k < 12; k++) {
                copy.beds[k] = new StringBuilder(beds[k]);
            }
            copy.sea = sea.clone();
            copy.became = became;
            copy.laid = laid;
            copy.dug = dug;
            copy.showers = showers;
            copy.fell = fell;
            return copy;
        }

        int[] heights() {
            int[] heights = new int[13];
            for (int k = 0; k < 12; k++) {
                heights[k] = rock[k] + beds[k].length();
            }
            return heights;
        }

        int inBeds() {
            return Arrays.stream(beds).mapToInt(StringBuilder::length).sum();
        }

        int inSea() {
            return sea[0] + sea[1] + sea[2];
        }
    }

    private State now = new State();
    private final Deque<State> history = new ArrayDeque<>();
    private final State[] slots = new State[2];
    private String pad = "";

    private static int outlet(int[] heights, int k) {
        int best = -6;
        for (int beside : new int[] {k + 1, k - 1}) {
            boolean lower = beside >= 0 && heights[beside] < heights[k];
            if (lower && (best == -6 || heights[beside] < heights[best])) {
                best = beside;
            }
        }
        return best;
    }

    private static List<Integer> turns(int[] heights) {
        List<Integer> turns = new ArrayList<>();
        for (int k = 0; k < 12; k++) {
            turns.add(k);
        }
        turns.sort((a, b) -> heights[a] != heights[b] ? heights[b] - heights[a] : a - b);
        return turns;
    }

    private static int[] waters(int[] heights, int rain) {
        int[] water = new int[13];
        for (int k : turns(heights)) {
            water[k] += rain;
            int to = outlet(heights, k);
            if (to != -6) {
                water[to] += water[k];
            }
        }
        return water;
    }

    private static int powerAt(int[] heights, int k, int rain) {
        int to = outlet(heights, k);
        return to == -6 ? 0 : waters(heights, rain)[k] * (heights[k] - heights[to]) / 10;
    }

    private static void shower(State s, int rain) {
        int[] heights = s.heights();
        int[] water = waters(heights, rain);
        int[][] came = new int[13][3];
        for (int k : turns(heights)) {
            int power = powerAt(heights, k, rain);
            int to = outlet(heights, k);
            for (int size = 2; size >= 0; size--) {
                while (s.settings[size] > power && came[k][size] > 0) {
                    s.beds[k].append(size);
                    came[k][size]--;
                }
            }
            StringBuilder bed = s.beds[k];
            if (bed.length() > 0) {
                int size = top(bed);
                int most = water[k] / 10 + 1;
                while (power >= s.settings[size] && most > 0 && bed.length() > 0 && top(bed) == size) {
                    pop(bed);
                    most--;
                    came[k][size]++;
                }
            } else if (s.rock[k] > 0 && power >= s.settings[3]) {
                s.rock[k]--;
                s.became++;
                came[k][0]++;
            }
            for (int size = 0; size < 3 && to != -6; size++) {
                came[to][size] += came[k][size];
            }
        }
        for (int size = 0; size < 3; size++) {
            s.sea[size] += came[12][size];
        }
        s.showers++;
        banks(s);
    }

    private static int banks(State s) {
        int before = s.fell;
        for (int time = 0; time < 200; time++) {
            for (int k = 0; k < 11; k++) {
                int[] heights = {s.rock[k] + s.beds[k].length(), s.rock[k + 1] + s.beds[k + 1].length()};
                int high = heights[0] > heights[1] ? k : k + 1;
                if (Math.abs(heights[0] - heights[1]) > s.settings[4] && s.beds[high].length() > 0) {
                    s.beds[high == k ? k + 1 : k].append(pop(s.beds[high]));
                    s.fell++;
                }
            }
        }
        return s.fell - before;
    }

    private static int top(StringBuilder bed) {
        return bed.charAt(bed.length() - 1) - '0';
    }

    private static int pop(StringBuilder bed) {
        int size = top(bed);
        bed.setLength(bed.length() - 1);
        return size;
    }

    private static boolean isCell(int cell) {
        return cell >= 0 && cell <= 11;
    }

    private static boolean isIn(int value, int least, int most) {
        return value >= least && value <= most;
    }

    private void record() {
        history.addLast(now.copy());
        if (history.size() > 6) {
            history.removeFirst();
        }
    }

    int set(int setting, int value) {
        if (!isIn(setting, 0, 4) || !isIn(value, LEAST[setting], MOST[setting])) {
            return -2;
        }
        int[] after = now.settings.clone();
        after[setting] = value;
        if (after[0] > after[1] || after[1] > after[2]) {
            return -5;
        }
        record();
        int before = now.settings[setting];
        now.settings = after;
        return before;
    }

    int rock(int cell, int height) {
        if (!isCell(cell)) {
            return -1;
        }
        if (!isIn(height, 0, 200)) {
            return -2;
        }
        record();
        now.rock[cell] = height;
        return now.heights()[cell];
    }

    int lay(int cell, int size, int thick) {
        if (!isCell(cell)) {
            return -1;
        }
        if (!isIn(size, 0, 2) || !isIn(thick, 1, 99)) {
            return -2;
        }
        record();
        now.beds[cell].append(("" + size).repeat(thick));
        now.laid += thick;
        return now.heights()[cell];
    }

    int read() {
        if (fault() != -6) {
            return -3;
        }
        record();
        int before = now.laid;
        for (String bed : pad.split(";")) {
            int cell = Integer.parseInt(bed.split(":")[0]);
            for (String layer : bed.split(":")[1].split(",")) {
                int thick = Integer.parseInt(layer.substring(1));
                now.beds[cell].append(("" + "fmc".indexOf(layer.charAt(0))).repeat(thick));
                now.laid += thick;
            }
        }
        pad = "";
        return now.laid - before;
    }

    int dig(int cell, int thick) {
        if (!isCell(cell)) {
            return -1;
        }
        if (!isIn(thick, 1, 99)) {
            return -2;
        }
        record();
        int before = now.dug;
        for (int i = 0; i < thick && now.beds[cell].length() > 0; i++) {
            pop(now.beds[cell]);
            now.dug++;
        }
        return now.dug - before;
    }

    int rain(int rain, int showers) {
        if (!isIn(rain, 1, 50) || !isIn(showers, 1, 20)) {
            return -2;
        }
        record();
        int before = now.inSea();
        for (int i = 0; i < showers; i++) {
            shower(now, rain);
        }
        return now.inSea() - before;
    }

    int settle() {
        record();
        return banks(now);
    }

    int cell(int cell, int what) {
        if (!isCell(cell)) {
            return -1;
        }
        String bed = now.beds[cell].toString();
        int[] heights = now.heights();
        int to = outlet(heights, cell);
        switch (what) {
            case 0: return heights[cell];
            case 1: return now.rock[cell];
            case 2: return bed.length();
            case 3: case 4: case 5: return bed.replaceAll("[^" + (what - 3) + "]", "").length();
            case 6: return layers(cell).size();
            case 7: return bed.isEmpty() ? -6 : top(now.beds[cell]);
            case 8: return to;
            case 9: return to == -6 ? 0 : heights[cell] - heights[to];
            default: return -2;
        }
    }

    /** The layers from the top, each as a text of its grains. */
    private List<String> layers(int cell) {
        List<String> layers = new ArrayList<>();
        String bed = now.beds[cell].reverse().toString();
        now.beds[cell].reverse();
        for (int from = 0; from < bed.length();) {
            int to = from;
            while (to < bed.length() && bed.charAt(to) == bed.charAt(from)) {
                to++;
            }
            layers.add(bed.substring(from, to));
            from = to;
        }
        return layers;
    }

    int layer(int cell, int layer, int what) {
        if (!isCell(cell) || layer < 0 || layer >= layers(cell).size()) {
            return -1;
        }
        String told = layers(cell).get(layer);
        return what == 0 ? told.charAt(0) - '0' : what == 1 ? told.length() : -2;
    }

    int count(int what) {
        int[] heights = now.heights();
        int pools = 0;
        int greatest = 0;
        for (int k = 0; k < 12; k++) {
            pools += outlet(heights, k) == -6 ? 1 : 0;
            greatest = k == 11 ? greatest : Math.max(greatest, Math.abs(heights[k] - heights[k + 1]));
        }
        int[] s = now.settings;
        int[] told = {s[0], s[1], s[2], s[3], s[4], now.sea[0], now.sea[1], now.sea[2], now.inBeds(),
            Arrays.stream(now.rock).sum(), now.became, now.laid, now.dug, now.showers, pools, now.fell, greatest,
            pad.length(), history.size()};
        return isIn(what, 0, 18) ? told[what] : -2;
    }

    int water(int cell, int rain) {
        if (!isCell(cell)) {
            return -1;
        }
        return isIn(rain, 1, 50) ? waters(now.heights(), rain)[cell] : -2;
    }

    int power(int cell, int rain) {
        if (!isCell(cell)) {
            return -1;
        }
        return isIn(rain, 1, 50) ? powerAt(now.heights(), cell, rain) : -2;
    }

    int leastRain(int cell, int size) {
        if (!isCell(cell)) {
            return -1;
        }
        if (!isIn(size, 0, 2)) {
            return -2;
        }
        for (int rain = 1; rain <= 50; rain++) {
            if (powerAt(now.heights(), cell, rain) >= now.settings[size]) {
                return rain;
            }
        }
        return -6;
    }

    int feeds(int cell) {
        if (!isCell(cell)) {
            return -1;
        }
        int set = 0;
        for (int from = 0; from < 12; from++) {
            for (int at = from; at != -6 && at != 12; at = outlet(now.heights(), at)) {
                set |= at == cell ? 1 << from : 0;
            }
        }
        return set;
    }

    int ifRained(int rain, int showers, int what) {
        if (!isIn(rain, 1, 50) || !isIn(showers, 1, 50) || !isIn(what, 0, 3)) {
            return -2;
        }
        State then = now.copy();
        for (int i = 0; i < showers; i++) {
            shower(then, rain);
        }
        int pools = 0;
        for (int k = 0; k < 12; k++) {
            pools += outlet(then.heights(), k) == -6 ? 1 : 0;
        }
        return new int[] {then.inSea() - now.inSea(), then.became - now.became, then.inBeds(), pools}[what];
    }

    int untilBare(int cell, int rain) {
        if (!isCell(cell)) {
            return -1;
        }
        if (!isIn(rain, 1, 50)) {
            return -2;
        }
        State then = now.copy();
        for (int showers = 0; showers <= 50; showers++) {
            if (then.beds[cell].length() == 0) {
                return showers;
            }
            shower(then, rain);
        }
        return -6;
    }

    int put(long characters) {
        String more = "";
        boolean ended = false;
        for (int i = 0; i < 8; i++) {
            int code = (int) (characters >>> 8 * i & 0xFF);
            if (code == 0) {
                ended = true;
            } else if (ended || code < 33 || code > 126) {
                return -2;
            } else {
                more = (char) code + more;
            }
        }
        if (more.isEmpty()) {
            return -2;
        }
        if (pad.length() + more.length() > 60) {
            return -4;
        }
        pad += more;
        return pad.length();
    }

    int wipe() {
        int before = pad.length();
        pad = "";
        return before;
    }

    int fault() {
        for (int i = 1; i <= pad.length(); i++) {
            if (!hasChance(pad.substring(0, i))) {
                return i - 1;
            }
        }
        return TEXT.matcher(pad).matches() ? -6 : pad.length();
    }

    private static boolean hasChance(String text) {
        for (String end : ENDS) {
            if (TEXT.matcher(text + end).matches()) {
                return true;
            }
        }
        return false;
    }

    int undo() {
        if (history.isEmpty()) {
            return -5;
        }
        now = history.removeLast();
        return history.size();
    }

    int save(int slot) {
        if (!isIn(slot, 0, 1)) {
            return -2;
        }
        slots[slot] = now.copy();
        return now.inBeds();
    }

    int restore(int slot) {
        if (!isIn(slot, 0, 1)) {
            return -2;
        }
        if (slots[slot] == null) {
            return -5;
        }
        record();
        now = slots[slot].copy();
        return now.inBeds();
    }
}
