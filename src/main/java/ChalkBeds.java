import java.util.Arrays;

/** Rain on a slope of chalk: twelve cells of rock with beds of fine, middle and coarse grains. */
public final class ChalkBeds {
    public static final int NO_SUCH = -1, BAD_VALUE = -2, BAD_TEXT = -3, TOO_MANY = -4, NOT_POSSIBLE = -5, NONE = -6;
    public static final int FINE = 0, MIDDLE = 1, COARSE = 2, HARD = 3, STEEP = 4;

    private static final int CELLS = 12;
    // The sea stands behind the last cell, so its number is the next one.
    private static final int SEA = CELLS;
    private static final int SIZES = 3;
    private static final int SETTINGS = 5;
    private static final int SLOTS = 2;

    private static final int MOST_ROCK = 200;
    private static final int MOST_THICK = 99;
    private static final int MOST_RAIN = 50;
    private static final int MOST_SHOWERS = 20;
    private static final int MOST_SHOWERS_TOLD = 50;

    private static final int[] FIRST_SETTINGS = {4, 12, 30, 60, 30};
    private static final int[] LEAST_SETTINGS = {1, 1, 1, 1, 5};
    private static final int[] MOST_SETTINGS = {200, 200, 200, 400, 100};

    private final Slope slope;
    // What would happen happens here, so that nothing changes on the slope itself.
    private final Slope trial;
    private final Flow flow;
    private final Shower shower;
    private final Pad pad;
    private final History history;
    private final Slope[] slots;
    private final boolean[] saved;

    public ChalkBeds() {
        slope = new Slope();
        trial = new Slope();
        flow = new Flow();
        shower = new Shower();
        pad = new Pad();
        history = new History();
        slots = new Slope[SLOTS];
        for (int i = 0; i < SLOTS; i++) {
            slots[i] = new Slope();
        }
        saved = new boolean[SLOTS];
    }

    // ---- changes

    public int set(int setting, int value) {
        if (!isBelow(setting, SETTINGS)) {
            return BAD_VALUE;
        }
        if (!isFrom(LEAST_SETTINGS[setting], MOST_SETTINGS[setting], value)) {
            return BAD_VALUE;
        }
        if (!keepsOrder(setting, value)) {
            return NOT_POSSIBLE;
        }
        history.record(slope);
        int before = slope.settings[setting];
        slope.settings[setting] = value;
        return before;
    }

    public int rock(int cell, int height) {
        if (!isBelow(cell, CELLS)) {
            return NO_SUCH;
        }
        if (!isFrom(0, MOST_ROCK, height)) {
            return BAD_VALUE;
        }
        history.record(slope);
        slope.cells[cell].rock = height;
        return slope.cells[cell].height();
    }

    public int lay(int cell, int size, int thick) {
        if (!isBelow(cell, CELLS)) {
            return NO_SUCH;
        }
        if (!isBelow(size, SIZES) || !isFrom(1, MOST_THICK, thick)) {
            return BAD_VALUE;
        }
        history.record(slope);
        slope.layByHand(cell, size, thick);
        return slope.cells[cell].height();
    }

    public int read() {
        if (pad.firstFault() != NONE) {
            return BAD_TEXT;
        }
        history.record(slope);
        int laid = pad.layOn(slope);
        pad.clear();
        return laid;
    }

    public int dig(int cell, int thick) {
        if (!isBelow(cell, CELLS)) {
            return NO_SUCH;
        }
        if (!isFrom(1, MOST_THICK, thick)) {
            return BAD_VALUE;
        }
        history.record(slope);
        int taken = slope.cells[cell].takeThroughLayers(thick);
        slope.dugGrains += taken;
        return taken;
    }

    public int rain(int rain, int showers) {
        if (!isFrom(1, MOST_RAIN, rain) || !isFrom(1, MOST_SHOWERS, showers)) {
            return BAD_VALUE;
        }
        history.record(slope);
        int before = slope.grainsInSea();
        pourOn(slope, rain, showers);
        return slope.grainsInSea() - before;
    }

    public int settle() {
        history.record(slope);
        return slope.letBanksFall();
    }

    // ---- what there is; nothing changes

    public int cell(int cell, int what) {
        if (!isBelow(cell, CELLS)) {
            return NO_SUCH;
        }
        Cell asked = slope.cells[cell];
        switch (what) {
            case 0:
                return asked.height();
            case 1:
                return asked.rock;
            case 2:
                return asked.grains;
            case 3:
            case 4:
            case 5:
                return asked.grainsOf(what - 3);
            case 6:
                return asked.layers;
            case 7:
                return asked.topSize();
            case 8:
                flow.survey(slope);
                return flow.outletOf(cell);
            case 9:
                flow.survey(slope);
                return flow.fallOf(cell);
            default:
                return BAD_VALUE;
        }
    }

    public int layer(int cell, int layer, int what) {
        if (!isBelow(cell, CELLS) || !isBelow(layer, slope.cells[cell].layers)) {
            return NO_SUCH;
        }
        switch (what) {
            case 0:
                return slope.cells[cell].sizeFromTop(layer);
            case 1:
                return slope.cells[cell].thickFromTop(layer);
            default:
                return BAD_VALUE;
        }
    }

    public int count(int what) {
        if (isBelow(what, SETTINGS)) {
            return slope.settings[what];
        }
        if (isBelow(what - SETTINGS, SIZES)) {
            return slope.sea[what - SETTINGS];
        }
        switch (what) {
            case 8:
                return slope.grainsInBeds();
            case 9:
                return slope.rockOfCells();
            case 10:
                return slope.rockGrains;
            case 11:
                return slope.laidGrains;
            case 12:
                return slope.dugGrains;
            case 13:
                return slope.showers;
            case 14:
                flow.survey(slope);
                return flow.pools();
            case 15:
                return slope.fallenGrains;
            case 16:
                return slope.greatestStep();
            case 17:
                return pad.length;
            case 18:
                return history.kept;
            default:
                return BAD_VALUE;
        }
    }

    // ---- what if; nothing changes

    public int water(int cell, int rain) {
        if (!isBelow(cell, CELLS)) {
            return NO_SUCH;
        }
        if (!isFrom(1, MOST_RAIN, rain)) {
            return BAD_VALUE;
        }
        flow.survey(slope);
        return flow.waterOf(cell, rain);
    }

    public int power(int cell, int rain) {
        if (!isBelow(cell, CELLS)) {
            return NO_SUCH;
        }
        if (!isFrom(1, MOST_RAIN, rain)) {
            return BAD_VALUE;
        }
        flow.survey(slope);
        return flow.powerOf(cell, rain);
    }

    public int leastRain(int cell, int size) {
        if (!isBelow(cell, CELLS)) {
            return NO_SUCH;
        }
        if (!isBelow(size, SIZES)) {
            return BAD_VALUE;
        }
        flow.survey(slope);
        for (int rain = 1; rain <= MOST_RAIN; rain++) {
            if (flow.powerOf(cell, rain) >= slope.settings[size]) {
                return rain;
            }
        }
        return NONE;
    }

    public int feeds(int cell) {
        if (!isBelow(cell, CELLS)) {
            return NO_SUCH;
        }
        flow.survey(slope);
        return flow.sourcesOf(cell);
    }

    public int ifRained(int rain, int showers, int what) {
        if (!isFrom(1, MOST_RAIN, rain) || !isFrom(1, MOST_SHOWERS_TOLD, showers) || !isFrom(0, 3, what)) {
            return BAD_VALUE;
        }
        trial.copyFrom(slope);
        pourOn(trial, rain, showers);
        switch (what) {
            case 0:
                return trial.grainsInSea() - slope.grainsInSea();
            case 1:
                return trial.rockGrains - slope.rockGrains;
            case 2:
                return trial.grainsInBeds();
            default:
                flow.survey(trial);
                return flow.pools();
        }
    }

    public int untilBare(int cell, int rain) {
        if (!isBelow(cell, CELLS)) {
            return NO_SUCH;
        }
        if (!isFrom(1, MOST_RAIN, rain)) {
            return BAD_VALUE;
        }
        if (slope.cells[cell].isBare()) {
            return 0;
        }
        trial.copyFrom(slope);
        for (int showers = 1; showers <= MOST_SHOWERS_TOLD; showers++) {
            pourOn(trial, rain, 1);
            if (trial.cells[cell].isBare()) {
                return showers;
            }
        }
        return NONE;
    }

    // ---- texts

    public int put(long characters) {
        return pad.append(characters);
    }

    public int wipe() {
        return pad.clear();
    }

    public int fault() {
        return pad.firstFault();
    }

    // ---- undo, saving

    public int undo() {
        if (history.kept == 0) {
            return NOT_POSSIBLE;
        }
        history.takeBack(slope);
        return history.kept;
    }

    public int save(int slot) {
        if (!isBelow(slot, SLOTS)) {
            return BAD_VALUE;
        }
        slots[slot].copyFrom(slope);
        saved[slot] = true;
        return slope.grainsInBeds();
    }

    public int restore(int slot) {
        if (!isBelow(slot, SLOTS)) {
            return BAD_VALUE;
        }
        if (!saved[slot]) {
            return NOT_POSSIBLE;
        }
        history.record(slope);
        slope.copyFrom(slots[slot]);
        return slope.grainsInBeds();
    }

    private static boolean isBelow(int number, int limit) {
        return number >= 0 && number < limit;
    }

    private static boolean isFrom(int least, int most, int number) {
        return number >= least && number <= most;
    }

    private boolean keepsOrder(int setting, int value) {
        int fine = setting == FINE ? value : slope.settings[FINE];
        int middle = setting == MIDDLE ? value : slope.settings[MIDDLE];
        int coarse = setting == COARSE ? value : slope.settings[COARSE];
        return fine <= middle && middle <= coarse;
    }

    private void pourOn(Slope on, int rain, int showers) {
        for (int i = 0; i < showers; i++) {
            shower.pour(on, rain);
            on.letBanksFall();
        }
    }

    /** The rock of a cell, and the layers on it from below. */
    private static final class Cell {
        private static final int FIRST_ROOM = 16;
        // A call brings at most 240 grains on the average: lay 99, read 154 (1,386 with its eight puts), 20 showers
        // on 12 rocks 240. So 512 calls and a look ahead can't bring as many grains, let alone as many layers.
        private static final int MOST_ROOM = 131072;

        int rock;
        int grains;
        int layers;
        private int[] sizes;
        private int[] thicks;

        Cell(int rock) {
            this.rock = rock;
            sizes = new int[FIRST_ROOM];
            thicks = new int[FIRST_ROOM];
        }

        int height() {
            return rock + grains;
        }

        boolean isBare() {
            return layers == 0;
        }

        int topSize() {
            return layers > 0 && layers <= sizes.length ? sizes[layers - 1] : NONE;
        }

        int sizeFromTop(int layer) {
            int place = layers - 1 - layer;
            return isBelow(place, sizes.length) ? sizes[place] : NONE;
        }

        int thickFromTop(int layer) {
            int place = layers - 1 - layer;
            return isBelow(place, thicks.length) ? thicks[place] : 0;
        }

        int grainsOf(int size) {
            int sum = 0;
            for (int i = 0; i < layers; i++) {
                if (sizeFromTop(i) == size) {
                    sum += thickFromTop(i);
                }
            }
            return sum;
        }

        void addGrains(int size, int thick) {
            if (layers > 0 && layers <= thicks.length && topSize() == size) {
                thicks[layers - 1] += thick;
                grains += thick;
                return;
            }
            if (layers >= sizes.length) {
                makeRoom();
            }
            if (isBelow(layers, sizes.length) && isBelow(layers, thicks.length)) {
                sizes[layers] = size;
                thicks[layers] = thick;
                layers++;
                grains += thick;
            }
        }

        /** Takes at most the top layer, and returns how many grains are taken. */
        int takeFromTopLayer(int most) {
            int top = layers - 1;
            if (top < 0 || top >= thicks.length) {
                return 0;
            }
            int taken = Math.min(most, thicks[top]);
            thicks[top] -= taken;
            grains -= taken;
            if (thicks[top] == 0) {
                layers--;
            }
            return taken;
        }

        int takeThroughLayers(int most) {
            int taken = 0;
            for (int i = 0; i < most && taken < most && layers > 0; i++) {
                taken += takeFromTopLayer(most - taken);
            }
            return taken;
        }

        void copyFrom(Cell other) {
            if (sizes.length < other.layers || thicks.length < other.layers) {
                sizes = new int[other.sizes.length];
                thicks = new int[other.thicks.length];
            }
            rock = other.rock;
            grains = other.grains;
            layers = other.layers;
            System.arraycopy(other.sizes, 0, sizes, 0, layers);
            System.arraycopy(other.thicks, 0, thicks, 0, layers);
        }

        private void makeRoom() {
            int room = 2 * sizes.length;
            if (room <= MOST_ROOM) {
                sizes = Arrays.copyOf(sizes, room);
                thicks = Arrays.copyOf(thicks, room);
            }
        }
    }

    /** All that undo and the slots bring back: settings, cells, what lies in the sea, and the counts so far. */
    private static final class Slope {
        private static final int FIRST_ROCK = 120;
        private static final int ROCK_STEP = 10;
        private static final int MOST_ROUNDS = 200;

        final int[] settings;
        final Cell[] cells;
        final int[] sea;
        int rockGrains;
        int laidGrains;
        int dugGrains;
        int showers;
        int fallenGrains;

        Slope() {
            settings = Arrays.copyOf(FIRST_SETTINGS, SETTINGS);
            cells = new Cell[CELLS];
            for (int k = 0; k < CELLS; k++) {
                cells[k] = new Cell(FIRST_ROCK - ROCK_STEP * k);
            }
            sea = new int[SIZES];
        }

        void copyFrom(Slope other) {
            System.arraycopy(other.settings, 0, settings, 0, SETTINGS);
            for (int k = 0; k < CELLS; k++) {
                cells[k].copyFrom(other.cells[k]);
            }
            System.arraycopy(other.sea, 0, sea, 0, SIZES);
            rockGrains = other.rockGrains;
            laidGrains = other.laidGrains;
            dugGrains = other.dugGrains;
            showers = other.showers;
            fallenGrains = other.fallenGrains;
        }

        void layByHand(int cell, int size, int thick) {
            if (isBelow(cell, CELLS)) {
                cells[cell].addGrains(size, thick);
                laidGrains += thick;
            }
        }

        int grainsInSea() {
            int sum = 0;
            for (int size = 0; size < SIZES; size++) {
                sum += sea[size];
            }
            return sum;
        }

        int grainsInBeds() {
            int sum = 0;
            for (int k = 0; k < CELLS; k++) {
                sum += cells[k].grains;
            }
            return sum;
        }

        int rockOfCells() {
            int sum = 0;
            for (int k = 0; k < CELLS; k++) {
                sum += cells[k].rock;
            }
            return sum;
        }

        int greatestStep() {
            int greatest = 0;
            for (int k = 0; k + 1 < CELLS; k++) {
                greatest = Math.max(greatest, Math.abs(cells[k].height() - cells[k + 1].height()));
            }
            return greatest;
        }

        /** Returns how many grains fall. */
        int letBanksFall() {
            int fallen = 0;
            int moved = 1;
            for (int round = 0; round < MOST_ROUNDS && moved > 0; round++) {
                moved = 0;
                for (int k = 0; k + 1 < CELLS; k++) {
                    moved += fallBetween(cells[k], cells[k + 1]);
                }
                fallen += moved;
            }
            fallenGrains += fallen;
            return fallen;
        }

        /** Returns 1 if a grain falls, and 0 if none does. */
        private int fallBetween(Cell one, Cell other) {
            int step = one.height() - other.height();
            Cell from = step > 0 ? one : other;
            Cell to = step > 0 ? other : one;
            if (Math.abs(step) <= settings[STEEP] || from.isBare()) {
                return 0;
            }
            int size = from.topSize();
            from.takeFromTopLayer(1);
            to.addGrains(size, 1);
            return 1;
        }
    }

    /** The ways of the water over a slope, by the heights that it has when it is surveyed. */
    private static final class Flow {
        private static final int POWER_PART = 10;

        private final int[] heights = new int[CELLS];
        private final int[] outlets = new int[CELLS];
        private final int[] falls = new int[CELLS];
        private final int[] order = new int[CELLS];
        private final int[] sources = new int[CELLS];

        void survey(Slope slope) {
            for (int k = 0; k < CELLS; k++) {
                heights[k] = slope.cells[k].height();
            }
            for (int k = 0; k < CELLS; k++) {
                outlets[k] = findOutlet(k);
                falls[k] = outlets[k] == NONE ? 0 : heights[k] - heightOf(outlets[k]);
                sources[k] = 1 << k;
            }
            sortByHeight();
            gatherSources();
        }

        int cellOfTurn(int turn) {
            return isBelow(turn, CELLS) ? order[turn] : NONE;
        }

        int outletOf(int cell) {
            return isBelow(cell, CELLS) ? outlets[cell] : NONE;
        }

        int fallOf(int cell) {
            return isBelow(cell, CELLS) ? falls[cell] : 0;
        }

        int sourcesOf(int cell) {
            return isBelow(cell, CELLS) ? sources[cell] : 0;
        }

        /** All water goes on, so each of a cell's sources brings it one rain. */
        int waterOf(int cell, int rain) {
            return isBelow(cell, CELLS) ? rain * Integer.bitCount(sources[cell]) : 0;
        }

        int powerOf(int cell, int rain) {
            return waterOf(cell, rain) * fallOf(cell) / POWER_PART;
        }

        int pools() {
            int sum = 0;
            for (int k = 0; k < CELLS; k++) {
                if (outlets[k] == NONE) {
                    sum++;
                }
            }
            return sum;
        }

        private int heightOf(int cell) {
            // What is not a cell here is the sea.
            return isBelow(cell, CELLS) ? heights[cell] : 0;
        }

        private int findOutlet(int cell) {
            int own = heightOf(cell);
            int behind = heightOf(cell + 1);
            if (cell > 0 && heightOf(cell - 1) < behind && heightOf(cell - 1) < own) {
                return cell - 1;
            }
            return behind < own ? cell + 1 : NONE;
        }

        private void sortByHeight() {
            for (int k = 0; k < CELLS; k++) {
                int place = k;
                while (place > 0 && heightOf(order[place - 1]) < heights[k]) {
                    order[place] = order[place - 1];
                    place--;
                }
                order[place] = k;
            }
        }

        private void gatherSources() {
            for (int turn = 0; turn < CELLS; turn++) {
                int cell = order[turn];
                int outlet = outletOf(cell);
                if (isBelow(outlet, CELLS)) {
                    sources[outlet] |= sourcesOf(cell);
                }
            }
        }
    }

    /** One shower, with the grains that are on their way in it. */
    private static final class Shower {
        private static final int WATER_OF_A_GRAIN = 10;

        private final Flow flow = new Flow();
        // For each cell the grains of each size that came to it, and behind them those for the sea.
        private final int[] came = new int[(CELLS + 1) * SIZES];

        void pour(Slope slope, int rain) {
            flow.survey(slope);
            Arrays.fill(came, 0);
            for (int turn = 0; turn < CELLS; turn++) {
                int cell = flow.cellOfTurn(turn);
                if (isBelow(cell, CELLS)) {
                    takeTurn(slope, cell, rain);
                }
            }
            for (int size = 0; size < SIZES; size++) {
                slope.sea[size] += came[SEA * SIZES + size];
            }
            slope.showers++;
        }

        private void takeTurn(Slope slope, int cell, int rain) {
            int power = flow.powerOf(cell, rain);
            layWeakerGrains(slope, cell, power);
            if (slope.cells[cell].isBare()) {
                wearRock(slope, cell, power);
            } else {
                wearBed(slope, cell, power, flow.waterOf(cell, rain));
            }
            passOn(cell, flow.outletOf(cell));
        }

        private void layWeakerGrains(Slope slope, int cell, int power) {
            for (int size = COARSE; size >= FINE; size--) {
                int grains = came[cell * SIZES + size];
                if (grains > 0 && slope.settings[size] > power) {
                    slope.cells[cell].addGrains(size, grains);
                    came[cell * SIZES + size] = 0;
                }
            }
        }

        private void wearBed(Slope slope, int cell, int power, int water) {
            Cell worn = slope.cells[cell];
            int size = worn.topSize();
            if (isBelow(size, SIZES) && power >= slope.settings[size]) {
                came[cell * SIZES + size] += worn.takeFromTopLayer(water / WATER_OF_A_GRAIN + 1);
            }
        }

        private void wearRock(Slope slope, int cell, int power) {
            Cell worn = slope.cells[cell];
            if (worn.rock > 0 && power >= slope.settings[HARD]) {
                worn.rock--;
                slope.rockGrains++;
                came[cell * SIZES + FINE]++;
            }
        }

        private void passOn(int cell, int outlet) {
            if (!isBelow(outlet, CELLS + 1)) {
                return;
            }
            for (int size = 0; size < SIZES; size++) {
                came[outlet * SIZES + size] += came[cell * SIZES + size];
            }
        }
    }

    /** The text that is put together for reading. */
    private static final class Pad {
        private static final int MOST_LENGTH = 60;
        private static final int MOST_AT_ONCE = 8;
        private static final int LEAST_CODE = 33;
        private static final int MOST_CODE = 126;

        // What may stand next, or that nothing may.
        private static final int CELL = 0;
        private static final int COLON_OR_DIGIT = 1;
        private static final int COLON = 2;
        private static final int SIZE = 3;
        private static final int THICK = 4;
        private static final int END_OR_DIGIT = 5;
        private static final int END = 6;
        private static final int NOTHING = 7;

        int length;
        private final char[] signs = new char[MOST_LENGTH];

        int append(long characters) {
            int more = countCodes(characters);
            if (more == 0) {
                return BAD_VALUE;
            }
            if (length + more > MOST_LENGTH) {
                return TOO_MANY;
            }
            for (int i = 0; i < more; i++) {
                int place = length + more - 1 - i;
                if (isBelow(place, MOST_LENGTH)) {
                    signs[place] = (char) ((characters >>> (8 * i)) & 255);
                }
            }
            length += more;
            return length;
        }

        int clear() {
            int before = length;
            length = 0;
            return before;
        }

        int firstFault() {
            int next = CELL;
            for (int i = 0; i < length && i < MOST_LENGTH; i++) {
                next = behind(next, signs[i]);
                if (next == NOTHING) {
                    return i;
                }
            }
            return next == END_OR_DIGIT || next == END ? NONE : length;
        }

        /** Lays the layers of a text that has no fault, and returns how many grains these are. */
        int layOn(Slope slope) {
            int before = slope.laidGrains;
            int number = 0;
            int cell = 0;
            int size = FINE;
            for (int i = 0; i < length && i < MOST_LENGTH; i++) {
                char sign = signs[i];
                if (isDigit(sign)) {
                    number = 10 * number + (sign - '0');
                } else if (sign == ':') {
                    cell = number;
                    number = 0;
                } else if (sign == ',' || sign == ';') {
                    slope.layByHand(cell, size, number);
                    number = 0;
                } else {
                    size = sizeOf(sign);
                }
            }
            slope.layByHand(cell, size, number);
            return slope.laidGrains - before;
        }

        /** Returns how many codes there are, 0 if one can't stand where it is. */
        private static int countCodes(long characters) {
            long rest = characters;
            int codes = 0;
            while (codes < MOST_AT_ONCE && rest != 0) {
                if (!isFrom(LEAST_CODE, MOST_CODE, (int) (rest & 255))) {
                    return 0;
                }
                rest >>>= 8;
                codes++;
            }
            return codes;
        }

        private static int behind(int awaited, char sign) {
            switch (awaited) {
                case CELL:
                    return behindCellStart(sign);
                case COLON_OR_DIGIT:
                    if (sign == '0' || sign == '1') {
                        return COLON;
                    }
                    return sign == ':' ? SIZE : NOTHING;
                case COLON:
                    return sign == ':' ? SIZE : NOTHING;
                case SIZE:
                    return sizeOf(sign) == NONE ? NOTHING : THICK;
                case THICK:
                    return isDigit(sign) && sign != '0' ? END_OR_DIGIT : NOTHING;
                case END_OR_DIGIT:
                    return isDigit(sign) ? END : behindLayer(sign);
                case END:
                    return behindLayer(sign);
                default:
                    return NOTHING;
            }
        }

        private static int behindCellStart(char sign) {
            if (!isDigit(sign)) {
                return NOTHING;
            }
            return sign == '1' ? COLON_OR_DIGIT : COLON;
        }

        private static int behindLayer(char sign) {
            if (sign == ',') {
                return SIZE;
            }
            return sign == ';' ? CELL : NOTHING;
        }

        private static boolean isDigit(char sign) {
            return sign >= '0' && sign <= '9';
        }

        private static int sizeOf(char sign) {
            if (sign == 'f') {
                return FINE;
            }
            if (sign == 'm') {
                return MIDDLE;
            }
            return sign == 'c' ? COARSE : NONE;
        }
    }

    /** The states before the latest changes, in a ring. */
    private static final class History {
        private static final int MOST_STATES = 6;

        int kept;
        private int next;
        private final Slope[] states;

        History() {
            states = new Slope[MOST_STATES];
            for (int i = 0; i < MOST_STATES; i++) {
                states[i] = new Slope();
            }
        }

        void record(Slope slope) {
            if (!isBelow(next, MOST_STATES)) {
                return;
            }
            states[next].copyFrom(slope);
            next = next + 1 < MOST_STATES ? next + 1 : 0;
            kept = Math.min(kept + 1, MOST_STATES);
        }

        void takeBack(Slope slope) {
            int latest = next > 0 ? next - 1 : MOST_STATES - 1;
            if (kept == 0 || !isBelow(latest, MOST_STATES)) {
                return;
            }
            slope.copyFrom(states[latest]);
            next = latest;
            kept--;
        }
    }
}
