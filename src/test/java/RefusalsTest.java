import java.util.Map;
import java.util.function.Supplier;
import java.util.function.ToIntFunction;

/** A refused call answers the error that is named first, and changes nothing: in no part of an object. */
public final class RefusalsTest {
    private static final int FAR = Integer.MAX_VALUE;
    private static final int NEAR = Integer.MIN_VALUE;
    private static final int NO_SUCH = ChalkBeds.NO_SUCH;
    private static final int BAD_VALUE = ChalkBeds.BAD_VALUE;
    private static final int BAD_TEXT = ChalkBeds.BAD_TEXT;
    private static final int TOO_MANY = ChalkBeds.TOO_MANY;
    private static final int NOT_POSSIBLE = ChalkBeds.NOT_POSSIBLE;
    private static final Due due = new Due("RefusalsTest");

    private final String name;
    private final Supplier<ChalkBeds> maker;
    private final Map<String, String> before;

    private RefusalsTest(String name, Supplier<ChalkBeds> maker) {
        this.name = name;
        this.maker = maker;
        before = Parts.of(maker);
    }

    public static void main(String[] args) {
        RefusalsTest onNew = new RefusalsTest("new", ChalkBeds::new);
        RefusalsTest onFull = new RefusalsTest("full", Witness::full);
        RefusalsTest onPartly = new RefusalsTest("partly", Witness::partly);
        RefusalsTest onFullPad = new RefusalsTest("full pad", Witness::fullPad);
        for (RefusalsTest on : new RefusalsTest[] {onNew, onFull, onPartly, onFullPad}) {
            on.changes();
            on.questions();
            on.whatIf();
            on.textsAndSlots();
        }
        onNew.refusesWithNothingThere();
        onFull.refusesHalfAText();
        onPartly.refusesTheEmptySlot();
        onFullPad.refusesMoreSigns(0);
        new RefusalsTest("nearly full pad", Witness::nearlyFullPad).refusesMoreSigns(2);
        due.end();
    }

    private void refuses(int error, String call, ToIntFunction<ChalkBeds> asked) {
        due.is(name + ": " + call, asked.applyAsInt(maker.get()), error);
        Map<String, String> after = Parts.of(() -> {
            ChalkBeds beds = maker.get();
            asked.applyAsInt(beds);
            return beds;
        });
        due.is(name + ": " + call, "changes " + Parts.different(before, after), "changes []");
    }

    private void changes() {
        int[][] settings = {{-1, 5}, {5, 5}, {NEAR, 5}, {FAR, 5}, {-1, 0}, {0, 0}, {0, 201}, {1, 0}, {1, 201}, {2, 0},
            {2, 201}, {3, 0}, {3, 401}, {4, 4}, {4, 101}, {0, NEAR}, {2, FAR}};
        for (int[] s : settings) {
            refuses(BAD_VALUE, "set(" + s[0] + ", " + s[1] + ")", beds -> beds.set(s[0], s[1]));
        }
        int[][] disorders = {{0, 13}, {0, 200}, {1, 2}, {1, 31}, {1, 200}, {2, 9}, {2, 1}};
        for (int[] d : disorders) {
            refuses(NOT_POSSIBLE, "set(" + d[0] + ", " + d[1] + ")", beds -> beds.set(d[0], d[1]));
        }
        for (int cell : new int[] {-1, 12, FAR, NEAR}) {
            refuses(NO_SUCH, "rock(" + cell + ", 7)", beds -> beds.rock(cell, 7));
            refuses(NO_SUCH, "rock(" + cell + ", 201)", beds -> beds.rock(cell, 201));
            refuses(NO_SUCH, "lay(" + cell + ", 1, 7)", beds -> beds.lay(cell, 1, 7));
            refuses(NO_SUCH, "lay(" + cell + ", 3, 7)", beds -> beds.lay(cell, 3, 7));
            refuses(NO_SUCH, "lay(" + cell + ", 1, 0)", beds -> beds.lay(cell, 1, 0));
            refuses(NO_SUCH, "dig(" + cell + ", 7)", beds -> beds.dig(cell, 7));
            refuses(NO_SUCH, "dig(" + cell + ", 100)", beds -> beds.dig(cell, 100));
        }
        for (int height : new int[] {-1, 201, FAR, NEAR}) {
            refuses(BAD_VALUE, "rock(2, " + height + ")", beds -> beds.rock(2, height));
        }
        for (int size : new int[] {-1, 3, FAR, NEAR}) {
            refuses(BAD_VALUE, "lay(2, " + size + ", 7)", beds -> beds.lay(2, size, 7));
        }
        for (int thick : new int[] {0, -1, 100, FAR, NEAR}) {
            refuses(BAD_VALUE, "lay(2, 0, " + thick + ")", beds -> beds.lay(2, 0, thick));
            refuses(BAD_VALUE, "dig(2, " + thick + ")", beds -> beds.dig(2, thick));
        }
        int[][] rains = {{0, 1}, {51, 1}, {FAR, 1}, {NEAR, 1}, {20, 0}, {20, 21}, {20, FAR}, {20, NEAR}, {0, 0}};
        for (int[] r : rains) {
            refuses(BAD_VALUE, "rain(" + r[0] + ", " + r[1] + ")", beds -> beds.rain(r[0], r[1]));
        }
    }

    private void questions() {
        for (int cell : new int[] {-1, 12, FAR, NEAR}) {
            refuses(NO_SUCH, "cell(" + cell + ", 0)", beds -> beds.cell(cell, 0));
            // Of what there is, these two could be NONE: but that is told only if no error applies.
            refuses(NO_SUCH, "cell(" + cell + ", 7)", beds -> beds.cell(cell, 7));
            refuses(NO_SUCH, "cell(" + cell + ", 8)", beds -> beds.cell(cell, 8));
            refuses(NO_SUCH, "cell(" + cell + ", 10)", beds -> beds.cell(cell, 10));
            refuses(NO_SUCH, "layer(" + cell + ", 0, 0)", beds -> beds.layer(cell, 0, 0));
            refuses(NO_SUCH, "layer(" + cell + ", 0, 2)", beds -> beds.layer(cell, 0, 2));
        }
        for (int layer : new int[] {-1, 9, FAR, NEAR}) {
            refuses(NO_SUCH, "layer(4, " + layer + ", 1)", beds -> beds.layer(4, layer, 1));
            refuses(NO_SUCH, "layer(4, " + layer + ", -1)", beds -> beds.layer(4, layer, -1));
        }
        for (int what : new int[] {-1, 10, FAR, NEAR}) {
            refuses(BAD_VALUE, "cell(4, " + what + ")", beds -> beds.cell(4, what));
        }
        for (int what : new int[] {-1, 19, FAR, NEAR}) {
            refuses(BAD_VALUE, "count(" + what + ")", beds -> beds.count(what));
        }
    }

    private void whatIf() {
        for (int cell : new int[] {-1, 12, FAR, NEAR}) {
            refuses(NO_SUCH, "feeds(" + cell + ")", beds -> beds.feeds(cell));
            refuses(NO_SUCH, "leastRain(" + cell + ", 0)", beds -> beds.leastRain(cell, 0));
            refuses(NO_SUCH, "leastRain(" + cell + ", 3)", beds -> beds.leastRain(cell, 3));
            for (int rain : new int[] {1, 0}) {
                refuses(NO_SUCH, "water(" + cell + ", " + rain + ")", beds -> beds.water(cell, rain));
                refuses(NO_SUCH, "power(" + cell + ", " + rain + ")", beds -> beds.power(cell, rain));
                refuses(NO_SUCH, "untilBare(" + cell + ", " + rain + ")", beds -> beds.untilBare(cell, rain));
            }
        }
        for (int size : new int[] {-1, 3, FAR, NEAR}) {
            refuses(BAD_VALUE, "leastRain(3, " + size + ")", beds -> beds.leastRain(3, size));
        }
        for (int rain : new int[] {0, 51, FAR, NEAR}) {
            refuses(BAD_VALUE, "water(3, " + rain + ")", beds -> beds.water(3, rain));
            refuses(BAD_VALUE, "power(3, " + rain + ")", beds -> beds.power(3, rain));
            refuses(BAD_VALUE, "untilBare(3, " + rain + ")", beds -> beds.untilBare(3, rain));
            refuses(BAD_VALUE, "ifRained(" + rain + ", 1, 0)", beds -> beds.ifRained(rain, 1, 0));
            refuses(BAD_VALUE, "ifRained(1, " + rain + ", 1)", beds -> beds.ifRained(1, rain, 1));
        }
        for (int what : new int[] {-1, 4, FAR, NEAR}) {
            refuses(BAD_VALUE, "ifRained(1, 1, " + what + ")", beds -> beds.ifRained(1, 1, what));
        }
    }

    private void textsAndSlots() {
        long[] signs = {0, 32, 127, 255, 0x3000, 0x30003030, 0x7F30303030303030L, 0x8030303030303030L, -1,
            Long.MIN_VALUE, Long.MAX_VALUE};
        for (long s : signs) {
            refuses(BAD_VALUE, "put(" + s + ")", beds -> beds.put(s));
        }
        for (int slot : new int[] {-1, 2, FAR, NEAR}) {
            refuses(BAD_VALUE, "save(" + slot + ")", beds -> beds.save(slot));
            refuses(BAD_VALUE, "restore(" + slot + ")", beds -> beds.restore(slot));
        }
    }

    private void refusesWithNothingThere() {
        refuses(NOT_POSSIBLE, "undo()", ChalkBeds::undo);
        refuses(NOT_POSSIBLE, "restore(0)", beds -> beds.restore(0));
        refuses(NOT_POSSIBLE, "restore(1)", beds -> beds.restore(1));
        refuses(BAD_TEXT, "read()", ChalkBeds::read);
        refuses(NO_SUCH, "layer(0, 0, 0)", beds -> beds.layer(0, 0, 0));
        refuses(NO_SUCH, "layer(0, 0, 2)", beds -> beds.layer(0, 0, 2));
    }

    private void refusesHalfAText() {
        refuses(BAD_TEXT, "read()", ChalkBeds::read);
    }

    private void refusesTheEmptySlot() {
        refuses(NOT_POSSIBLE, "restore(1)", beds -> beds.restore(1));
        refuses(NO_SUCH, "layer(5, 1, 0)", beds -> beds.layer(5, 1, 0));
    }

    private void refusesMoreSigns(int room) {
        for (int signs = room + 1; signs <= 8; signs++) {
            long more = Texts.packed("00000000".substring(0, signs));
            refuses(TOO_MANY, "put of " + signs, beds -> beds.put(more));
        }
    }
}
