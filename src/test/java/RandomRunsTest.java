import java.util.Random;

/** Runs of calls drawn from fixed seeds, on the program and on the model: each answer has to be the same. */
public final class RandomRunsTest {
    private static final int RUNS = 600;
    // A step can be several calls, and the last look is some 200: an object is good for 512.
    private static final int STEPS = 170;
    private static final int[] ODD = {-1, 0, 1, 2, 3, 4, 5, 9, 10, 11, 12, 20, 21, 50, 51, 99, 100, 200, 201,
        Integer.MAX_VALUE, Integer.MIN_VALUE};
    private static final Due due = new Due("RandomRunsTest");

    private final ChalkBeds beds = new ChalkBeds();
    private final Model model = new Model();
    private final Random random;
    private final int run;
    private final boolean wild;
    // All beds on a few cells, so that banks are high and layers many.
    private final boolean tall;

    private RandomRunsTest(int run) {
        this.run = run;
        random = new Random(run);
        wild = run % 5 == 0;
        tall = run % 7 == 0;
    }

    public static void main(String[] args) {
        for (int run = 0; run < RUNS; run++) {
            new RandomRunsTest(run).go();
        }
        due.end();
    }

    private void go() {
        for (int i = 0; i < STEPS; i++) {
            step();
        }
        for (int what = 0; what <= 18; what++) {
            is("count", beds.count(what), model.count(what), what);
        }
        for (int cell = 0; cell < 12; cell++) {
            for (int what = 0; what <= 9; what++) {
                is("cell", beds.cell(cell, what), model.cell(cell, what), cell, what);
            }
            int layers = Math.min(3, model.cell(cell, 6));
            for (int layer = 0; layer < layers; layer++) {
                is("layer", beds.layer(cell, layer, 0), model.layer(cell, layer, 0), cell, layer, 0);
                is("layer", beds.layer(cell, layer, 1), model.layer(cell, layer, 1), cell, layer, 1);
            }
        }
        is("fault", beds.fault(), model.fault());
    }

    private void is(String call, int got, int want, long... arguments) {
        StringBuilder told = new StringBuilder("run ").append(run).append(": ").append(call).append('(');
        for (int i = 0; i < arguments.length; i++) {
            told.append(i > 0 ? ", " : "").append(arguments[i]);
        }
        due.is(told.append(')').toString(), got, want);
    }

    private int from(int least, int most) {
        if (random.nextInt(wild ? 8 : 40) == 0) {
            return random.nextBoolean() ? ODD[random.nextInt(ODD.length)] : random.nextBoolean() ? least - 1 : most + 1;
        }
        int edge = random.nextInt(12);
        return edge == 0 ? least : edge == 1 ? most : least + random.nextInt(most - least + 1);
    }

    private void step() {
        int kind = random.nextInt(100);
        if (kind < 46) {
            change(kind);
        } else if (kind < 58) {
            text();
        } else if (kind < 65) {
            state();
        } else {
            ask();
        }
    }

    private void change(int kind) {
        int cell = tall ? from(4, 6) : from(0, 11);
        if (kind < 5) {
            int setting = from(0, 4);
            int value = setting < 3 ? from(1, random.nextInt(4) == 0 ? 200 : 40) : setting == 3 ? from(1, 400) : from(5, 100);
            is("set", beds.set(setting, value), model.set(setting, value), setting, value);
        } else if (kind < 9) {
            int height = from(0, 200);
            is("rock", beds.rock(cell, height), model.rock(cell, height), cell, height);
        } else if (kind < 24) {
            int size = from(0, 2);
            int thick = from(tall ? 60 : 1, 99);
            is("lay", beds.lay(cell, size, thick), model.lay(cell, size, thick), cell, size, thick);
        } else if (kind < 28) {
            int thick = from(1, 99);
            is("dig", beds.dig(cell, thick), model.dig(cell, thick), cell, thick);
        } else if (kind < 42) {
            int rain = from(1, 50);
            int showers = from(1, random.nextInt(3) == 0 ? 20 : 3);
            is("rain", beds.rain(rain, showers), model.rain(rain, showers), rain, showers);
        } else {
            is("settle", beds.settle(), model.settle());
        }
    }

    private void text() {
        int kind = random.nextInt(10);
        if (kind == 0) {
            is("wipe", beds.wipe(), model.wipe());
        } else if (kind == 1) {
            is("read", beds.read(), model.read());
        } else if (kind == 2) {
            is("fault", beds.fault(), model.fault());
        } else if (kind < 6) {
            is("wipe", beds.wipe(), model.wipe());
            put(wholeText());
            is("fault", beds.fault(), model.fault());
            is("read", beds.read(), model.read());
        } else if (kind < 9) {
            put(Texts.packed(someSigns(1 + random.nextInt(8), "0112359:::fmc,;")));
            is("fault", beds.fault(), model.fault());
        } else {
            put(random.nextLong() >>> 8 * random.nextInt(9));
        }
    }

    private void put(long characters) {
        is("put", beds.put(characters), model.put(characters), characters);
    }

    private void put(String text) {
        for (int i = 0; i < text.length(); i += 8) {
            put(Texts.packed(text.substring(i, Math.min(i + 8, text.length()))));
        }
    }

    private String someSigns(int length, String among) {
        StringBuilder signs = new StringBuilder();
        for (int i = 0; i < length; i++) {
            signs.append(among.charAt(random.nextInt(among.length())));
        }
        return signs.toString();
    }

    private String wholeText() {
        StringBuilder text = new StringBuilder();
        int parts = 1 + random.nextInt(3);
        for (int i = 0; i < parts; i++) {
            text.append(i > 0 ? ";" : "").append(tall ? 4 + 2 * random.nextInt(2) : random.nextInt(12));
            int layers = 1 + random.nextInt(4);
            for (int j = 0; j < layers; j++) {
                text.append(j > 0 ? ',' : ':').append("fmc".charAt(random.nextInt(3))).append(1 + random.nextInt(99));
            }
        }
        if (random.nextInt(4) == 0) {
            text.setCharAt(random.nextInt(text.length()), "01:fx,;".charAt(random.nextInt(7)));
        }
        return text.toString();
    }

    private void state() {
        int kind = random.nextInt(8);
        int slot = random.nextInt(12) == 0 ? from(0, 1) : random.nextInt(2);
        if (kind < 4) {
            is("undo", beds.undo(), model.undo());
        } else if (kind < 6) {
            is("save", beds.save(slot), model.save(slot), slot);
        } else {
            is("restore", beds.restore(slot), model.restore(slot), slot);
        }
    }

    private void ask() {
        int cell = from(0, 11);
        int rain = from(1, 50);
        switch (random.nextInt(9)) {
            case 0: {
                int what = from(0, 9);
                is("cell", beds.cell(cell, what), model.cell(cell, what), cell, what);
                break;
            }
            case 1: {
                int layer = from(0, 4);
                int what = from(0, 1);
                is("layer", beds.layer(cell, layer, what), model.layer(cell, layer, what), cell, layer, what);
                break;
            }
            case 2: {
                int what = from(0, 18);
                is("count", beds.count(what), model.count(what), what);
                break;
            }
            case 3:
                is("water", beds.water(cell, rain), model.water(cell, rain), cell, rain);
                break;
            case 4:
                is("power", beds.power(cell, rain), model.power(cell, rain), cell, rain);
                break;
            case 5: {
                int size = from(0, 2);
                is("leastRain", beds.leastRain(cell, size), model.leastRain(cell, size), cell, size);
                break;
            }
            case 6:
                is("feeds", beds.feeds(cell), model.feeds(cell), cell);
                break;
            case 7: {
                int showers = from(1, random.nextInt(4) == 0 ? 50 : 4);
                int what = from(0, 3);
                is("ifRained", beds.ifRained(rain, showers, what), model.ifRained(rain, showers, what), rain, showers, what);
                break;
            }
            default:
                is("untilBare", beds.untilBare(cell, rain), model.untilBare(cell, rain), cell, rain);
        }
    }
}
