import java.util.function.IntUnaryOperator;

/** Each argument's range: its least and its greatest value are taken, and the values beside them are not. */
public final class RangesTest {
    private static final int NO_SUCH = ChalkBeds.NO_SUCH;
    private static final int BAD_VALUE = ChalkBeds.BAD_VALUE;
    private static final int NOT_POSSIBLE = ChalkBeds.NOT_POSSIBLE;
    private static final Due due = new Due("RangesTest");

    private RangesTest() {
    }

    public static void main(String[] args) {
        settings();
        theOrderOfThePowers();
        changesOfACell();
        rains();
        questionsOfACell();
        layersOfACell();
        counts();
        whatIf();
        ifRained();
        signs();
        slots();
        due.end();
    }

    /** What is asked makes an object of its own for each value. */
    private static void range(String call, IntUnaryOperator asked, int least, int dueThere, int most, int dueAtMost,
            int error) {
        due.is(call + " of " + least, asked.applyAsInt(least), dueThere);
        due.is(call + " of " + most, asked.applyAsInt(most), dueAtMost);
        int[] outside = {least - 1, most + 1, Integer.MIN_VALUE, Integer.MAX_VALUE};
        for (int value : outside) {
            due.is(call + " of " + value, asked.applyAsInt(value), error);
        }
    }

    private static ChalkBeds fresh() {
        return new ChalkBeds();
    }

    /** FINE 1, MIDDLE at the value that is given, COARSE 200. */
    private static ChalkBeds wide(int middle) {
        ChalkBeds beds = new ChalkBeds();
        beds.set(ChalkBeds.COARSE, 200);
        beds.set(ChalkBeds.FINE, 1);
        beds.set(ChalkBeds.MIDDLE, middle);
        return beds;
    }

    /** Two layers on cell 3: 5 fine grains, on them 8 coarse ones. */
    private static ChalkBeds layered() {
        ChalkBeds beds = new ChalkBeds();
        beds.lay(3, ChalkBeds.FINE, 5);
        beds.lay(3, ChalkBeds.COARSE, 8);
        return beds;
    }

    private static void settings() {
        range("set(?, 5)", v -> fresh().set(v, 5), 0, 4, 4, 30, BAD_VALUE);
        range("set(FINE, ?)", v -> wide(200).set(ChalkBeds.FINE, v), 1, 1, 200, 1, BAD_VALUE);
        range("set(MIDDLE, ?)", v -> wide(50).set(ChalkBeds.MIDDLE, v), 1, 50, 200, 50, BAD_VALUE);
        range("set(COARSE, ?)", v -> wide(1).set(ChalkBeds.COARSE, v), 1, 200, 200, 200, BAD_VALUE);
        range("set(HARD, ?)", v -> fresh().set(ChalkBeds.HARD, v), 1, 60, 400, 60, BAD_VALUE);
        range("set(STEEP, ?)", v -> fresh().set(ChalkBeds.STEEP, v), 5, 30, 100, 30, BAD_VALUE);
    }

    private static void theOrderOfThePowers() {
        due.is("FINE as MIDDLE", fresh().set(ChalkBeds.FINE, 12), 4);
        due.is("FINE above MIDDLE", fresh().set(ChalkBeds.FINE, 13), NOT_POSSIBLE);
        due.is("MIDDLE as FINE", fresh().set(ChalkBeds.MIDDLE, 4), 12);
        due.is("MIDDLE below FINE", fresh().set(ChalkBeds.MIDDLE, 3), NOT_POSSIBLE);
        due.is("MIDDLE as COARSE", fresh().set(ChalkBeds.MIDDLE, 30), 12);
        due.is("MIDDLE above COARSE", fresh().set(ChalkBeds.MIDDLE, 31), NOT_POSSIBLE);
        due.is("COARSE as MIDDLE", fresh().set(ChalkBeds.COARSE, 12), 30);
        due.is("COARSE below MIDDLE", fresh().set(ChalkBeds.COARSE, 11), NOT_POSSIBLE);
        due.is("FINE out of range and of order", fresh().set(ChalkBeds.FINE, 201), BAD_VALUE);
        due.is("MIDDLE out of range and of order", fresh().set(ChalkBeds.MIDDLE, 0), BAD_VALUE);
        due.is("COARSE out of range and of order", fresh().set(ChalkBeds.COARSE, 0), BAD_VALUE);
        due.is("HARD has no order: below FINE", fresh().set(ChalkBeds.HARD, 1), 60);
        due.is("STEEP has no order: above COARSE", fresh().set(ChalkBeds.STEEP, 100), 30);
        ChalkBeds highFine = wide(200);
        due.is("FINE above HARD", highFine.set(ChalkBeds.FINE, 200), 1);
    }

    private static void changesOfACell() {
        range("rock(?, 7)", v -> fresh().rock(v, 7), 0, 7, 11, 7, NO_SUCH);
        range("rock(3, ?)", v -> layered().rock(3, v), 0, 13, 200, 213, BAD_VALUE);
        range("lay(?, 0, 1)", v -> fresh().lay(v, 0, 1), 0, 121, 11, 11, NO_SUCH);
        range("lay(0, ?, 1)", v -> fresh().lay(0, v, 1), 0, 121, 2, 121, BAD_VALUE);
        range("lay(0, 0, ?)", v -> fresh().lay(0, 0, v), 1, 121, 99, 219, BAD_VALUE);
        range("dig(?, 7)", v -> fresh().dig(v, 7), 0, 0, 11, 0, NO_SUCH);
        range("dig(3, ?)", v -> layered().dig(3, v), 1, 1, 99, 13, BAD_VALUE);
    }

    private static void rains() {
        range("rain(?, 1)", v -> fresh().rain(v, 1), 1, 0, 50, 11, BAD_VALUE);
        range("rain(1, ?)", v -> fresh().rain(1, v), 1, 0, 20, 0, BAD_VALUE);
        due.is("a rain out of range with showers out of range", fresh().rain(0, 0), BAD_VALUE);
    }

    private static void questionsOfACell() {
        range("cell(?, 1)", v -> fresh().cell(v, 1), 0, 120, 11, 10, NO_SUCH);
        range("cell(3, ?)", v -> layered().cell(3, v), 0, 103, 9, 23, BAD_VALUE);
        range("water(?, 1)", v -> fresh().water(v, 1), 0, 1, 11, 12, NO_SUCH);
        range("water(2, ?)", v -> fresh().water(2, v), 1, 3, 50, 150, BAD_VALUE);
        range("power(?, 1)", v -> fresh().power(v, 1), 0, 1, 11, 12, NO_SUCH);
        range("power(2, ?)", v -> fresh().power(2, v), 1, 3, 50, 150, BAD_VALUE);
        range("leastRain(?, 1)", v -> fresh().leastRain(v, 1), 0, 12, 11, 1, NO_SUCH);
        range("leastRain(0, ?)", v -> fresh().leastRain(0, v), 0, 4, 2, 30, BAD_VALUE);
        range("feeds(?)", v -> fresh().feeds(v), 0, 1, 11, 4095, NO_SUCH);
    }

    private static void layersOfACell() {
        range("layer(?, 0, 0)", v -> everywhere().layer(v, 0, 0), 0, 0, 11, 2, NO_SUCH);
        range("layer(3, ?, 1)", v -> layered().layer(3, v, 1), 0, 8, 1, 5, NO_SUCH);
        range("layer(3, 0, ?)", v -> layered().layer(3, 0, v), 0, 2, 1, 8, BAD_VALUE);
        due.is("the top layer of an empty bed", layered().layer(4, 0, 0), NO_SUCH);
        due.is("no such layer and a bad what", layered().layer(3, 2, 2), NO_SUCH);
    }

    private static ChalkBeds everywhere() {
        ChalkBeds beds = new ChalkBeds();
        for (int cell = 0; cell < 12; cell++) {
            beds.lay(cell, cell / 4, 1);
        }
        return beds;
    }

    private static void counts() {
        range("count(?)", v -> layered().count(v), 0, 4, 18, 2, BAD_VALUE);
    }

    private static void whatIf() {
        range("untilBare(?, 50)", v -> everywhere().untilBare(v, 50), 0, 1, 11, 1, NO_SUCH);
        range("untilBare(0, ?)", v -> everywhere().untilBare(0, v), 1, ChalkBeds.NONE, 50, 1, BAD_VALUE);
        due.is("a bad rain where NONE would be due", everywhere().untilBare(0, 0), BAD_VALUE);
        due.is("a bad size where NONE would be due", flat().leastRain(0, 3), BAD_VALUE);
        due.is("a good size there", flat().leastRain(0, 2), ChalkBeds.NONE);
    }

    private static ChalkBeds flat() {
        ChalkBeds beds = new ChalkBeds();
        beds.rock(0, 110);
        return beds;
    }

    private static void ifRained() {
        range("ifRained(?, 1, 1)", v -> fresh().ifRained(v, 1, 1), 1, 0, 50, 11, BAD_VALUE);
        range("ifRained(1, ?, 0)", v -> fresh().ifRained(1, v, 0), 1, 0, 50, 0, BAD_VALUE);
        range("ifRained(1, 1, ?)", v -> flat().ifRained(1, 1, v), 0, 0, 3, 1, BAD_VALUE);
    }

    /** A code in each place of each number of characters. */
    private static void signs() {
        for (int signs = 1; signs <= 8; signs++) {
            for (int place = 0; place < signs; place++) {
                int shift = 8 * place;
                long others = Texts.packed("00000000".substring(0, signs)) & ~(255L << shift);
                IntUnaryOperator asked = code -> fresh().put(others | (code & 255L) << shift);
                String call = "put of " + signs + ", place " + place + ", a code";
                due.is(call + " of 33", asked.applyAsInt(33), signs);
                due.is(call + " of 126", asked.applyAsInt(126), signs);
                for (int code : new int[] {1, 32, 127, 128, 255}) {
                    due.is(call + " of " + code, asked.applyAsInt(code), BAD_VALUE);
                }
                // At the top a 0 ends the characters, elsewhere it parts them.
                int dueOfNone = place < signs - 1 || signs == 1 ? BAD_VALUE : signs - 1;
                due.is(call + " of 0", asked.applyAsInt(0), dueOfNone);
            }
        }
    }

    private static void slots() {
        range("save(?)", v -> layered().save(v), 0, 13, 1, 13, BAD_VALUE);
        range("restore(?)", v -> savedTwice().restore(v), 0, 0, 1, 13, BAD_VALUE);
        due.is("no such slot, with nothing saved", fresh().restore(2), BAD_VALUE);
        due.is("such a slot, with nothing saved", fresh().restore(1), NOT_POSSIBLE);
    }

    private static ChalkBeds savedTwice() {
        ChalkBeds beds = layered();
        beds.save(1);
        beds.undo();
        beds.undo();
        beds.save(0);
        return beds;
    }
}
