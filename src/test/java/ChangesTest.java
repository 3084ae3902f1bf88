/** Promises 1 to 8: a new object, set, rock, lay, read, dig, rain, settle. */
public final class ChangesTest {
    private static final int FAR = Integer.MAX_VALUE;
    private static final int NEAR = Integer.MIN_VALUE;
    private static final Due due = new Due("ChangesTest");

    private ChangesTest() {
    }

    public static void main(String[] args) {
        aNewObject();
        setChanges();
        setRefuses();
        rockChanges();
        rockRefuses();
        layMakesLayers();
        layRefuses();
        readLays();
        readRefuses();
        digTakes();
        digRefuses();
        rainWearsRock();
        rainTakesGrains();
        rainTakesAtMostTheTopLayer();
        rainPassesAndLaysGrains();
        rainLaysCoarseGrainsFirst();
        rainTurnsByHeightsAhead();
        rainOnBareGroundWithoutRock();
        rainLetsBanksFallBehindEachShower();
        rainRefuses();
        settleLetsBanksFall();
        settleEndsAfterTwoHundredTimes();
        settleMixesGrains();
        due.end();
    }

    private static void aNewObject() {
        ChalkBeds beds = new ChalkBeds();
        int[] counts = {4, 12, 30, 60, 30, 0, 0, 0, 0, 780, 0, 0, 0, 0, 0, 0, 10, 0, 0};
        for (int what = 0; what < counts.length; what++) {
            due.is("new: count(" + what + ")", beds.count(what), counts[what]);
        }
        for (int k = 0; k < 12; k++) {
            int height = 120 - 10 * k;
            int[] about = {height, height, 0, 0, 0, 0, 0, ChalkBeds.NONE, k + 1, 10};
            for (int what = 0; what < about.length; what++) {
                due.is("new: cell(" + k + ", " + what + ")", beds.cell(k, what), about[what]);
            }
        }
        due.is("new: undo()", beds.undo(), ChalkBeds.NOT_POSSIBLE);
        due.is("new: restore(0)", beds.restore(0), ChalkBeds.NOT_POSSIBLE);
        due.is("new: restore(1)", beds.restore(1), ChalkBeds.NOT_POSSIBLE);
        due.is("new: fault()", beds.fault(), 0);
        ChalkBeds other = new ChalkBeds();
        other.rock(0, 7);
        due.is("objects stand apart", beds.cell(0, 1), 120);
    }

    private static void setChanges() {
        ChalkBeds beds = new ChalkBeds();
        due.is("set(FINE, 1)", beds.set(0, 1), 4);
        due.is("set(FINE, 12), as MIDDLE", beds.set(0, 12), 1);
        due.is("set(COARSE, 200)", beds.set(2, 200), 30);
        due.is("set(MIDDLE, 200), as COARSE", beds.set(1, 200), 12);
        due.is("set(FINE, 200)", beds.set(0, 200), 12);
        due.is("set(HARD, 1)", beds.set(3, 1), 60);
        due.is("set(HARD, 400)", beds.set(3, 400), 1);
        due.is("set(STEEP, 5)", beds.set(4, 5), 30);
        due.is("set(STEEP, 100)", beds.set(4, 100), 5);
        int[] settings = {200, 200, 200, 400, 100};
        for (int what = 0; what < 5; what++) {
            due.is("count(" + what + ")", beds.count(what), settings[what]);
        }
        due.is("set counts as a change", beds.count(18), 6);

        ChalkBeds steep = new ChalkBeds();
        steep.lay(0, 0, 25);
        due.is("set(STEEP, 5) on a bank", steep.set(4, 5), 30);
        due.is("no bank falls by set", steep.cell(0, 2), 25);

        ChalkBeds least = new ChalkBeds();
        least.set(0, 1);
        due.is("set(MIDDLE, 1), as FINE", least.set(1, 1), 12);
        due.is("set(COARSE, 1), as MIDDLE", least.set(2, 1), 30);
        due.is("set(FINE, 2) above MIDDLE", least.set(0, 2), ChalkBeds.NOT_POSSIBLE);
    }

    private static void setRefuses() {
        ChalkBeds beds = new ChalkBeds();
        int[][] bad = {{-1, 5}, {5, 5}, {NEAR, 5}, {FAR, 5}, {0, 0}, {0, -1}, {0, 201}, {1, 0}, {1, 201}, {2, 0},
            {2, 201}, {2, FAR}, {3, 0}, {3, 401}, {3, NEAR}, {4, 4}, {4, 101}};
        for (int[] b : bad) {
            due.is("set(" + b[0] + ", " + b[1] + ")", beds.set(b[0], b[1]), ChalkBeds.BAD_VALUE);
        }
        int[][] disordered = {{0, 13}, {0, 200}, {1, 3}, {1, 31}, {2, 11}, {2, 1}};
        for (int[] d : disordered) {
            due.is("set(" + d[0] + ", " + d[1] + ")", beds.set(d[0], d[1]), ChalkBeds.NOT_POSSIBLE);
        }
        due.is("a refused set is no change", beds.count(18), 0);
        due.is("FINE stays", beds.count(0), 4);
        due.is("MIDDLE stays", beds.count(1), 12);
        due.is("COARSE stays", beds.count(2), 30);
    }

    private static void rockChanges() {
        ChalkBeds beds = new ChalkBeds();
        due.is("rock(0, 0)", beds.rock(0, 0), 0);
        due.is("rock(11, 200)", beds.rock(11, 200), 200);
        beds.lay(5, 1, 20);
        due.is("rock(5, 100) under a bed", beds.rock(5, 100), 120);
        due.is("the bed stays", beds.cell(5, 2), 20);
        due.is("no bank falls by rock", beds.cell(5, 0), 120);
        due.is("rock of all cells", beds.count(9), 780 - 120 + 190 + 30);
        due.is("rock counts as a change", beds.count(18), 4);
        due.is("rock(5, 100) again", beds.rock(5, 100), 120);
        due.is("as a change, though nothing is different", beds.count(18), 5);
    }

    private static void rockRefuses() {
        ChalkBeds beds = new ChalkBeds();
        due.is("rock(-1, -1)", beds.rock(-1, -1), ChalkBeds.NO_SUCH);
        due.is("rock(12, 201)", beds.rock(12, 201), ChalkBeds.NO_SUCH);
        due.is("rock(FAR, 0)", beds.rock(FAR, 0), ChalkBeds.NO_SUCH);
        due.is("rock(NEAR, 0)", beds.rock(NEAR, 0), ChalkBeds.NO_SUCH);
        due.is("rock(0, -1)", beds.rock(0, -1), ChalkBeds.BAD_VALUE);
        due.is("rock(11, 201)", beds.rock(11, 201), ChalkBeds.BAD_VALUE);
        due.is("a refused rock is no change", beds.count(18), 0);
        due.is("the rock stays", beds.count(9), 780);
    }

    private static void layMakesLayers() {
        ChalkBeds beds = new ChalkBeds();
        due.is("lay(0, 0, 1)", beds.lay(0, 0, 1), 121);
        due.is("lay(0, 0, 99)", beds.lay(0, 0, 99), 220);
        due.is("one layer", beds.cell(0, 6), 1);
        due.is("of 100", beds.layer(0, 0, 1), 100);
        due.is("no bank falls by lay", beds.cell(0, 2), 100);
        due.is("lay(0, 2, 3)", beds.lay(0, 2, 3), 223);
        due.is("lay(0, 0, 4)", beds.lay(0, 0, 4), 227);
        due.is("three layers", beds.cell(0, 6), 3);
        due.is("count(11)", beds.count(11), 107);
        due.is("count(8)", beds.count(8), 107);
        due.is("lay(11, 1, 99)", beds.lay(11, 1, 99), 109);
        due.is("lay counts as a change", beds.count(18), 5);
    }

    private static void layRefuses() {
        ChalkBeds beds = new ChalkBeds();
        due.is("lay(-1, 9, 0)", beds.lay(-1, 9, 0), ChalkBeds.NO_SUCH);
        due.is("lay(12, 0, 1)", beds.lay(12, 0, 1), ChalkBeds.NO_SUCH);
        int[][] bad = {{-1, 1}, {3, 1}, {NEAR, 1}, {FAR, 1}, {0, 0}, {1, -1}, {2, 100}, {0, FAR}, {0, NEAR}};
        for (int[] b : bad) {
            due.is("lay(0, " + b[0] + ", " + b[1] + ")", beds.lay(0, b[0], b[1]), ChalkBeds.BAD_VALUE);
        }
        due.is("a refused lay is no change", beds.count(18) + beds.count(8) + beds.count(11), 0);
    }

    private static void readLays() {
        ChalkBeds beds = new ChalkBeds();
        beds.lay(11, 2, 5);
        Texts.put(beds, "11:c7,f1,f2,m99;0:m10;11:m1;1:f1");
        due.is("read()", beds.read(), 7 + 1 + 2 + 99 + 10 + 1 + 1);
        due.is("the pad is empty", beds.count(17), 0);
        due.is("the layers of 11", beds.cell(11, 6), 3);
        int[][] layers = {{1, 100}, {0, 3}, {2, 12}};
        for (int i = 0; i < layers.length; i++) {
            due.is("size of layer " + i, beds.layer(11, i, 0), layers[i][0]);
            due.is("thickness of layer " + i, beds.layer(11, i, 1), layers[i][1]);
        }
        due.is("the bed of 0", beds.cell(0, 4), 10);
        due.is("the bed of 1", beds.cell(1, 3), 1);
        due.is("no bank falls by read", beds.cell(11, 0), 10 + 115);
        due.is("count(11)", beds.count(11), 5 + 121);
        due.is("read counts as one change", beds.count(18), 2);
        due.is("undo of read", beds.undo(), 1);
        due.is("takes the grains", beds.count(8), 5);
        due.is("and their count", beds.count(11), 5);
        due.is("but the pad stays empty", beds.count(17), 0);
        Texts.put(beds, "10:f10");
        due.is("read() of a cell with two digits", beds.read(), 10);
        due.is("its bed", beds.cell(10, 3), 10);
    }

    private static void readRefuses() {
        ChalkBeds beds = new ChalkBeds();
        due.is("read() of an empty pad", beds.read(), ChalkBeds.BAD_TEXT);
        Texts.put(beds, "0:f1;");
        due.is("read() of a text that ends too early", beds.read(), ChalkBeds.BAD_TEXT);
        due.is("the pad stays", beds.count(17), 5);
        Texts.put(beds, "x");
        due.is("read() of a wrong text", beds.read(), ChalkBeds.BAD_TEXT);
        due.is("nothing is laid", beds.count(8) + beds.count(11) + beds.count(18), 0);
    }

    private static void digTakes() {
        ChalkBeds beds = new ChalkBeds();
        Texts.put(beds, "3:f5,m1,c4,m2");
        beds.read();
        due.is("dig(3, 1)", beds.dig(3, 1), 1);
        due.is("a thinner top", beds.layer(3, 0, 1), 1);
        due.is("dig(3, 4) through layers", beds.dig(3, 4), 4);
        due.is("three layers are left", beds.cell(3, 6), 3);
        due.is("a coarse one", beds.cell(3, 7), 2);
        due.is("of 1", beds.layer(3, 0, 1), 1);
        due.is("dig(3, 2) of two layers", beds.dig(3, 2), 2);
        due.is("one layer is left", beds.cell(3, 6), 1);
        due.is("the one below", beds.cell(3, 7), 0);
        due.is("of 5", beds.cell(3, 2), 5);
        due.is("dig(3, 99)", beds.dig(3, 99), 5);
        due.is("no layer is left", beds.cell(3, 6), 0);
        due.is("the rock stays", beds.cell(3, 0), 90);
        due.is("dig(3, 1) of nothing", beds.dig(3, 1), 0);
        due.is("count(12)", beds.count(12), 12);
        due.is("dig counts as a change, always", beds.count(18), 6);
        beds.lay(3, 2, 3);
        due.is("lay on the dug cell", beds.layer(3, 0, 0), 2);
        beds.lay(0, 1, 99);
        due.is("dig of a whole layer", beds.dig(0, 99), 99);
        due.is("leaves none", beds.cell(0, 7), ChalkBeds.NONE);
    }

    private static void digRefuses() {
        ChalkBeds beds = new ChalkBeds();
        beds.lay(0, 0, 9);
        due.is("dig(-1, 0)", beds.dig(-1, 0), ChalkBeds.NO_SUCH);
        due.is("dig(12, 1)", beds.dig(12, 1), ChalkBeds.NO_SUCH);
        int[] bad = {0, -1, 100, FAR, NEAR};
        for (int b : bad) {
            due.is("dig(0, " + b + ")", beds.dig(0, b), ChalkBeds.BAD_VALUE);
        }
        due.is("nothing is dug", beds.count(12), 0);
        due.is("a refused dig is no change", beds.count(18), 1);
    }

    private static void rainWearsRock() {
        ChalkBeds beds = new ChalkBeds();
        due.is("rain(4, 1): power 48 at most", beds.rain(4, 1), 0);
        due.is("rain(5, 1): power 60 at cell 11", beds.rain(5, 1), 1);
        due.is("rock of 11", beds.cell(11, 1), 9);
        due.is("count(10)", beds.count(10), 1);
        due.is("fine grains in the sea", beds.count(5), 1);
        due.is("showers so far", beds.count(13), 2);
        due.is("rain counts as a change", beds.count(18), 2);

        ChalkBeds hard = new ChalkBeds();
        hard.set(3, 61);
        due.is("rain(5, 1) on harder rock", hard.rain(5, 1), 0);
        hard.set(3, 1);
        due.is("rain(1, 1) on soft rock: the grain of 0 is laid on 1", hard.rain(1, 1), 10);
        due.is("that covers the rock of 1", hard.cell(1, 1), 110);
        due.is("all other rock is lower", hard.count(9), 780 - 11);
        due.is("count(10) of soft rock", hard.count(10), 11);
    }

    private static void rainTakesGrains() {
        ChalkBeds beds = new ChalkBeds();
        beds.set(3, 400);
        beds.lay(0, 2, 10);
        due.is("rain(14, 1): power 28", beds.rain(14, 1), 0);
        due.is("rain(15, 1): power 30", beds.rain(15, 1), 2);
        due.is("they are coarse", beds.count(7), 2);
        due.is("8 are left", beds.cell(0, 2), 8);
        due.is("rain(20, 1): power 36, 3 grains", beds.rain(20, 1), 3);
        due.is("rain(19, 1): power 28", beds.rain(19, 1), 0);
        due.is("5 are left", beds.cell(0, 5), 5);
    }

    private static void rainTakesAtMostTheTopLayer() {
        ChalkBeds beds = new ChalkBeds();
        beds.set(3, 400);
        beds.lay(0, 0, 10);
        beds.lay(0, 1, 2);
        due.is("rain(30, 1): 4 grains, but 2 on top", beds.rain(30, 1), 2);
        due.is("middle ones", beds.count(6), 2);
        due.is("the layer is gone", beds.cell(0, 6), 1);
        due.is("rain(30, 1): 4 fine ones", beds.rain(30, 1), 4);
        due.is("fine ones", beds.count(5), 4);
        due.is("rain(30, 3): 4, and the last 2, then none", beds.rain(30, 3), 6);
        due.is("bare", beds.cell(0, 6), 0);
    }

    private static void rainPassesAndLaysGrains() {
        ChalkBeds beds = new ChalkBeds();
        beds.set(3, 400);
        beds.rock(1, 101);
        beds.lay(0, 1, 5);
        due.is("rain(5, 1)", beds.rain(5, 1), 0);
        due.is("power 12 takes a middle grain from 0", beds.cell(0, 2), 4);
        due.is("power 1 lays it on 1", beds.layer(1, 0, 0), 1);
        due.is("one", beds.layer(1, 0, 1), 1);
        beds.rock(1, 107);
        due.is("rain(8, 1): power 12 at 0, power 12 at 1", beds.rain(8, 1), 2);
        due.is("3 are left on 0", beds.cell(0, 2), 3);
        due.is("none on 1", beds.cell(1, 2), 0);
    }

    private static void rainLaysCoarseGrainsFirst() {
        ChalkBeds beds = new ChalkBeds();
        beds.rock(1, 0);
        beds.rock(3, 150);
        beds.rock(4, 200);
        beds.lay(0, 0, 5);
        beds.lay(2, 2, 5);
        beds.lay(3, 1, 5);
        beds.rain(50, 1);
        due.is("three layers in the pool", beds.cell(1, 6), 3);
        for (int layer = 0; layer < 3; layer++) {
            due.is("size of layer " + layer, beds.layer(1, layer, 0), layer);
            due.is("thickness of layer " + layer, beds.layer(1, layer, 1), 5);
        }
    }

    private static void rainTurnsByHeightsAhead() {
        ChalkBeds beds = new ChalkBeds();
        beds.set(3, 1);
        beds.set(0, 1);
        beds.rock(0, 50);
        beds.rock(1, 50);
        beds.rock(2, 51);
        beds.rock(3, 200);
        due.is("1 is the lower one beside 2", beds.cell(2, 8), 1);
        due.is("0 is a pool: 1 is as high", beds.cell(0, 8), ChalkBeds.NONE);
        due.is("1 is a pool: 0 is as high", beds.cell(1, 8), ChalkBeds.NONE);
        beds.rain(10, 1);
        due.is("a pool wears no rock", beds.cell(0, 1), 50);
        due.is("the grains of 2 and 3 lie in the pool 1", beds.cell(1, 3), 2);
        due.is("2 is lower by 1", beds.cell(2, 0), 50);
        due.is("count(10): 2, 3 and 4 to 11", beds.count(10), 10);
    }

    private static void rainOnBareGroundWithoutRock() {
        ChalkBeds beds = new ChalkBeds();
        beds.set(3, 1);
        beds.rock(11, 0);
        due.is("11 is a pool beside the sea", beds.cell(11, 8), ChalkBeds.NONE);
        due.is("rain(50, 1)", beds.rain(50, 1), 0);
        due.is("its rock stays 0", beds.cell(11, 1), 0);
        due.is("the grains of all others lie there", beds.cell(11, 3), 11);
    }

    private static void rainLetsBanksFallBehindEachShower() {
        ChalkBeds beds = new ChalkBeds();
        beds.set(4, 100);
        beds.set(0, 200 - 188);
        beds.lay(0, 1, 99);
        due.is("rain(1, 1): power 10", beds.rain(1, 1), 0);
        due.is("5 fall", beds.count(15), 5);
        due.is("on cell 1", beds.cell(1, 2), 5);
        due.is("94 are left", beds.cell(0, 2), 94);
        beds.rock(0, 123);
        due.is("rain(1, 2): another 1 falls, not 2", beds.rain(1, 2), 0);
        due.is("count(15)", beds.count(15), 6);
        due.is("count(13)", beds.count(13), 3);
    }

    private static void rainRefuses() {
        ChalkBeds beds = new ChalkBeds();
        int[][] bad = {{0, 1}, {-1, 1}, {51, 1}, {FAR, 1}, {NEAR, 1}, {1, 0}, {1, -1}, {1, 21}, {50, FAR}, {50, NEAR}};
        for (int[] b : bad) {
            due.is("rain(" + b[0] + ", " + b[1] + ")", beds.rain(b[0], b[1]), ChalkBeds.BAD_VALUE);
        }
        due.is("a refused rain is no change", beds.count(18), 0);
        due.is("and no shower", beds.count(13), 0);
        beds.rain(50, 20);
        due.is("rain(50, 20) is fine", beds.count(13), 20);
    }

    private static void settleLetsBanksFall() {
        ChalkBeds beds = new ChalkBeds();
        due.is("settle() on bare rock", beds.settle(), 0);
        due.is("is a change all the same", beds.count(18), 1);
        beds.rock(5, 200);
        due.is("bare rock does not fall", beds.settle(), 0);
        ChalkBeds bank = new ChalkBeds();
        bank.set(4, 100);
        bank.lay(0, 0, 99);
        bank.rock(1, 119);
        due.is("as high as STEEP", bank.settle(), 0);
        bank.rock(1, 118);
        due.is("above STEEP", bank.settle(), 1);
        due.is("98 are left", bank.cell(0, 2), 98);
        bank.rock(1, 110);
        due.is("four more", bank.settle(), 4);
        due.is("count(15)", bank.count(15), 5);
        due.is("no shower", bank.count(13), 0);

        ChalkBeds back = new ChalkBeds();
        back.lay(11, 2, 50);
        back.rock(10, 0);
        due.is("to the one ahead, not to the sea", back.settle(), 15);
        due.is("15 on 10", back.cell(10, 5), 15);
        due.is("35 on 11", back.cell(11, 5), 35);
    }

    private static void settleEndsAfterTwoHundredTimes() {
        ChalkBeds beds = new ChalkBeds();
        beds.set(4, 100);
        for (int i = 0; i < 6; i++) {
            beds.lay(0, 0, 99);
        }
        beds.settle();
        due.is("200 grains leave cell 0", beds.cell(0, 2), 594 - 200);
        due.holds("more fall when asked again", beds.settle() > 0);
    }

    private static void settleMixesGrains() {
        ChalkBeds beds = new ChalkBeds();
        for (int k = 0; k < 12; k++) {
            beds.rock(k, 0);
        }
        beds.set(4, 100);
        beds.lay(4, 0, 99);
        beds.lay(4, 0, 4);
        beds.lay(6, 2, 99);
        beds.lay(6, 2, 4);
        due.is("settle(): 4 to 3, 4 to 5, 6 to 5 and 6 to 7", beds.settle(), 4);
        due.is("the layers of 5", beds.cell(5, 6), 2);
        due.is("its top is coarse", beds.cell(5, 7), 2);
    }
}
