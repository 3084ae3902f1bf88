/** "Cells and beds" and "A shower", sentence by sentence, at their edges. */
public final class ShowerTest {
    private static final int FINE = ChalkBeds.FINE;
    private static final int MIDDLE = ChalkBeds.MIDDLE;
    private static final int COARSE = ChalkBeds.COARSE;
    private static final int HARD = ChalkBeds.HARD;
    private static final int STEEP = ChalkBeds.STEEP;
    private static final int NONE = ChalkBeds.NONE;
    private static final int SEA = 12;
    private static final Due due = new Due("ShowerTest");

    private ShowerTest() {
    }

    public static void main(String[] args) {
        layersOfOneSizeJoin();
        layersAreKeptHoweverMany();
        aLayerOfWhichNothingIsLeftIsGone();
        outletsOfTheFirstCells();
        outletsOfTheLastCell();
        outletsAreThoseAhead();
        outletsAreAsTheyAreNow();
        waterGoesTheLongWay();
        turnsGoFromTheHighestToTheLowest();
        thePowerIsRoundedDown();
        grainsStayWherePowerIsBelowTheirs();
        grainsAreTakenFromTheirPowerOn();
        asManyGrainsAsTheWaterDividedByTen();
        atMostTheTopLayer();
        whatIsLaidCoversTheBed();
        whatIsLaidCoversTheRock();
        aBedProtectsTheRock();
        rockIsWornDownToNothing();
        rockIsWornFromItsPowerOn();
        theSeaKeepsItsGrains();
        theWaterOfAPoolGoesAway();
        showersComeOneAfterTheOther();
        due.end();
    }

    /** Bare rock, as high as told; no rain below 34 wears it where each cell falls by 10, and hardly a bank falls. */
    private static ChalkBeds slope(int... heights) {
        ChalkBeds beds = new ChalkBeds();
        for (int cell = 0; cell < heights.length; cell++) {
            beds.rock(cell, heights[cell]);
        }
        beds.set(HARD, 400);
        beds.set(STEEP, 100);
        return beds;
    }

    private static void layersOfOneSizeJoin() {
        ChalkBeds dug = new ChalkBeds();
        Texts.put(dug, "0:f5,m1,f2");
        dug.read();
        dug.dig(0, 3);
        due.is("the layer that a dig left", Dump.layers(dug, 0), "f5");
        dug.lay(0, FINE, 2);
        due.is("lay on it", Dump.layers(dug, 0), "f7");
        Texts.put(dug, "0:f1,m1;0:m2");
        dug.read();
        due.is("read on it", Dump.layers(dug, 0), "m3 f8");

        ChalkBeds rained = slope(115);
        rained.lay(0, FINE, 4);
        rained.lay(0, MIDDLE, 1);
        due.is("rain(12, 1) takes the middle grain", rained.rain(12, 1), 1);
        rained.lay(0, FINE, 2);
        due.is("lay on what a shower left", Dump.layers(rained, 0), "f6");

        ChalkBeds fallen = new ChalkBeds();
        fallen.lay(0, FINE, 20);
        fallen.lay(0, MIDDLE, 1);
        due.is("settle() takes the middle grain", fallen.settle(), 1);
        fallen.lay(0, FINE, 2);
        due.is("lay on what a bank left", Dump.layers(fallen, 0), "f22");
        fallen.dig(0, 2);
        fallen.lay(0, MIDDLE, 1);
        due.is("settle() takes another one: 141 to 111", fallen.settle(), 0);
        fallen.lay(0, MIDDLE, 1);
        due.is("settle() takes another one: 142 to 111", fallen.settle(), 1);
        due.is("banks that fall on their own size", Dump.layers(fallen, 1), "m2");

        ChalkBeds settled = slope(160, 110, 110);
        settled.lay(0, FINE, 9);
        settled.lay(1, FINE, 3);
        settled.rain(2, 1);
        due.is("what a shower lays on its own size", Dump.layers(settled, 1), "f4");
    }

    private static void layersAreKeptHoweverMany() {
        ChalkBeds beds = new ChalkBeds();
        for (int layers = 1; layers <= 66; layers++) {
            beds.lay(2, layers % 3, 1);
            due.is("a layer on top of " + (layers - 1), beds.cell(2, 6), layers);
            beds.lay(2, layers % 3, 1);
            due.is("the same one, thicker", beds.cell(2, 6), layers);
        }
        for (int size = 0; size < 3; size++) {
            due.is("grains of size " + size, beds.cell(2, 3 + size), 44);
        }
        for (int layers = 66; layers > 14; layers--) {
            due.is("size of the top one of " + layers, beds.cell(2, 7), layers % 3);
            due.is("its thickness", beds.layer(2, 0, 1), 2);
            due.is("dig of it", beds.dig(2, 2), 2);
        }
    }

    private static void aLayerOfWhichNothingIsLeftIsGone() {
        ChalkBeds beds = new ChalkBeds();
        beds.lay(6, COARSE, 9);
        due.is("dig(6, 8)", beds.dig(6, 8), 8);
        due.is("one grain is a layer", Dump.layers(beds, 6), "c1");
        due.is("dig(6, 1)", beds.dig(6, 1), 1);
        due.is("it is gone", beds.cell(6, 6), 0);
        due.is("no top", beds.cell(6, 7), NONE);
        due.is("no such layer", beds.layer(6, 0, 1), ChalkBeds.NO_SUCH);
        due.is("the height is the rock", beds.cell(6, 0), 60);
        due.is("dig(6, 1) of an empty bed", beds.dig(6, 1), 0);
        beds.lay(6, MIDDLE, 99);
        due.is("dig(6, 99) of a bed of 99", beds.dig(6, 99), 99);
        due.is("the bed is empty", beds.cell(6, 2), 0);
        beds.lay(6, MIDDLE, 99);
        beds.lay(6, FINE, 1);
        due.is("dig(6, 99) of a bed of 100", beds.dig(6, 99), 99);
        due.is("the lowest grain is left", Dump.layers(beds, 6), "m1");
    }

    private static void outletsOfTheFirstCells() {
        ChalkBeds beds = slope(110, 110, 109);
        due.is("0 beside a cell as high", beds.cell(0, 8), NONE);
        due.is("its fall", beds.cell(0, 9), 0);
        due.is("1 is lower by 1 behind", beds.cell(1, 8), 2);
        due.is("its fall", beds.cell(1, 9), 1);
        beds.rock(0, 108);
        due.is("0 is the lower one beside 1", beds.cell(1, 8), 0);
        due.is("its fall", beds.cell(1, 9), 2);
        beds.rock(0, 109);
        due.is("of two with the same height the one behind", beds.cell(1, 8), 2);
        beds.rock(2, 110);
        due.is("only 0 is lower than 1", beds.cell(1, 8), 0);
        beds.rock(0, 111);
        due.is("0 is higher by 1", beds.cell(0, 8), 1);
        due.is("1 has none", beds.cell(1, 8), NONE);
    }

    private static void outletsOfTheLastCell() {
        ChalkBeds beds = new ChalkBeds();
        beds.rock(11, 1);
        due.is("the sea is lower than 1", beds.cell(11, 8), SEA);
        due.is("its fall", beds.cell(11, 9), 1);
        beds.rock(11, 0);
        due.is("the sea is not lower than 0", beds.cell(11, 8), NONE);
        due.is("its fall", beds.cell(11, 9), 0);
        beds.lay(11, COARSE, 1);
        due.is("its bed counts", beds.cell(11, 8), SEA);
        beds.rock(10, 0);
        due.is("10 is as high as the sea, which is behind", beds.cell(11, 8), SEA);
        due.is("10 beside 9 and 11", beds.cell(10, 8), NONE);
    }

    private static void outletsAreThoseAhead() {
        // 5 gets lower than 6 in its turn; but ahead of the shower 6 had none lower beside it.
        ChalkBeds beds = slope(200, 200, 200, 200, 101, 100, 101, 101);
        beds.set(FINE, 1);
        beds.lay(5, FINE, 2);
        due.is("the way of 5", beds.cell(5, 8), 6);
        due.is("6 is a pool", beds.cell(6, 8), NONE);
        beds.rain(10, 1);
        due.is("5 has given its grains", beds.cell(5, 2), 0);
        due.is("6 keeps them", Dump.layers(beds, 6), "f2");
        due.is("now 5 is a pool", beds.cell(5, 8), NONE);
        due.is("and 6 leads to 5", beds.cell(6, 8), 5);
    }

    private static void outletsAreAsTheyAreNow() {
        ChalkBeds beds = new ChalkBeds();
        due.is("3 falls to 4", beds.cell(3, 8), 4);
        beds.rock(4, 150);
        due.is("3 is a pool now", beds.cell(3, 8), NONE);
        beds.rock(2, 80);
        due.is("the fall of 3 now", beds.cell(3, 9), 10);
        beds.rock(2, 70);
        due.is("pools now: 2 alone", beds.count(14), 1);
        due.is("feeds(2) now", beds.feeds(2), 0b1111);
        beds.undo();
        due.is("water(2, 1) now: of 0 to 3", beds.water(2, 1), 4);
        beds.undo();
        due.is("power(3, 50) of a pool now", beds.power(3, 50), 0);
        beds.undo();
        due.is("leastRain(3, FINE) now", beds.leastRain(3, FINE), 1);
    }

    private static void waterGoesTheLongWay() {
        ChalkBeds beds = slope(10, 20, 30, 40, 50, 60, 70, 80, 90, 100, 110, 120);
        due.is("water(0, 50) of 0 to 10", beds.water(0, 50), 550);
        due.is("water(11, 50) of 11 alone", beds.water(11, 50), 50);
        due.is("its way is the sea", beds.cell(11, 8), SEA);
        beds.lay(11, FINE, 99);
        due.is("the sea stays the lower one", beds.cell(11, 8), SEA);
        due.is("water(0, 1) of 0 to 10", beds.water(0, 1), 11);
        due.is("feeds(0)", beds.feeds(0), 0b11111111111);
        due.is("feeds(11)", beds.feeds(11), 1 << 11);
        due.is("power(1, 1) to the front", beds.power(1, 1), 10);
        due.is("power(0, 50) of the pool", beds.power(0, 50), 0);
    }

    /** Each way leads grains of the highest cell through all others, so each turn has to come behind the one ahead. */
    private static void turnsGoFromTheHighestToTheLowest() {
        ChalkBeds front = slope(10, 30, 50, 70, 90, 110, 130, 150, 170, 190, 200, 195);
        front.lay(10, FINE, 9);
        front.rain(3, 1);
        due.is("one grain comes to the pool 0", Dump.layers(front, 0), "f1");
        due.is("eight are left", front.cell(10, 2), 8);
        ChalkBeds behind = slope(200, 190, 170, 150, 130, 110, 90, 70, 50, 30, 20, 10);
        behind.lay(0, FINE, 9);
        due.is("one grain comes to the sea", behind.rain(3, 1), 1);
        ChalkBeds middle = slope(200, 180, 160, 140, 120, 0, 130, 150, 170, 190, 200, 200);
        middle.lay(0, COARSE, 4);
        middle.lay(10, COARSE, 5);
        middle.lay(1, MIDDLE, 1);
        middle.rain(30, 1);
        due.is("the rock of 4 is worn", middle.cell(4, 1), 119);
        due.is("the rock of 6 is worn", middle.cell(6, 1), 129);
        due.is("all grains of both sides come to the pool 5", Dump.layers(middle, 5), "f2 m1 c8");
    }

    private static void thePowerIsRoundedDown() {
        ChalkBeds beds = slope(121);
        due.is("11 times 9", beds.power(0, 9), 9);
        due.is("11 times 10", beds.power(0, 10), 11);
        due.is("11 times 49", beds.power(0, 49), 53);
        beds.rock(0, 119);
        due.is("9 times 1", beds.power(0, 1), 0);
        due.is("9 times 10", beds.power(0, 10), 9);
        due.is("9 times 11", beds.power(0, 11), 9);
        due.is("9 times 12", beds.power(0, 12), 10);
    }

    /** The powers of all sizes at a value, two grains of a size on their way over cell 1, which has the power 20. */
    private static ChalkBeds passing(int size, int power) {
        ChalkBeds beds = slope(156);
        beds.set(COARSE, power);
        beds.set(MIDDLE, power);
        beds.set(FINE, power);
        beds.lay(0, size, 9);
        due.is("power(1, 10)", beds.power(1, 10), 20);
        due.is("water(1, 10)", beds.water(1, 10), 20);
        return beds;
    }

    private static void grainsStayWherePowerIsBelowTheirs() {
        for (int size = FINE; size <= COARSE; size++) {
            ChalkBeds same = passing(size, 20);
            due.is("leastRain tells it", same.leastRain(1, size), 10);
            due.is("size " + size + " over a power that is the same", same.rain(10, 1), 2);
            due.is("none is laid", same.cell(1, 2), 0);
            due.is("all are in the sea", same.count(5 + size), 2);
            ChalkBeds above = passing(size, 21);
            due.is("leastRain tells it", above.leastRain(1, size), 11);
            due.is("size " + size + " over a power that is below by 1", above.rain(10, 1), 0);
            due.is("two are laid", above.cell(1, 3 + size), 2);
        }
    }

    private static void grainsAreTakenFromTheirPowerOn() {
        int[] powers = {4, 12, 30};
        int[] grains = {1, 2, 4};
        for (int size = FINE; size <= COARSE; size++) {
            ChalkBeds beds = slope(115);
            beds.lay(0, size, 5);
            due.is("size " + size + ", power below by 1", beds.rain(powers[size] - 1, 1), 0);
            due.is("none is taken", beds.cell(0, 2), 5);
            due.is("size " + size + ", the same power", beds.rain(powers[size], 1), grains[size]);
            due.is("the others are left", beds.cell(0, 2), 5 - grains[size]);
        }
    }

    private static void asManyGrainsAsTheWaterDividedByTen() {
        int[][] taken = {{1, 1}, {9, 1}, {10, 2}, {11, 2}, {19, 2}, {20, 3}, {29, 3}, {30, 4}, {49, 5}, {50, 6}};
        for (int[] t : taken) {
            ChalkBeds beds = slope(160);
            beds.lay(0, FINE, 40);
            beds.rain(t[0], 1);
            due.is("taken off by rain(" + t[0] + ", 1)", 40 - beds.cell(0, 2), t[1]);
        }
        ChalkBeds last = slope(163, 158, 153, 148, 143, 138, 133, 128, 123, 118, 113, 10);
        last.lay(11, FINE, 99);
        due.is("water(11, 50)", last.water(11, 50), 600);
        due.is("rain(50, 1) takes 61", last.rain(50, 1), 61);
        due.is("38 are left", last.cell(11, 2), 38);
        due.is("water(11, 50) again", last.water(11, 50), 600);
        last.rain(50, 1);
        due.is("61 of 38", last.cell(11, 2), 0);
    }

    private static void atMostTheTopLayer() {
        ChalkBeds beds = slope(125);
        Texts.put(beds, "0:f5,c7,f3");
        beds.read();
        due.is("4 of a top layer of 3", beds.rain(30, 1), 3);
        due.is("the next one stays whole", Dump.layers(beds, 0), "c7 f5");
        due.is("4 of a top layer of 7", beds.rain(30, 1), 4);
        due.is("3 of a top layer of 3", beds.rain(29, 1), 3);
        due.is("the lowest one stays whole", Dump.layers(beds, 0), "f5");
        due.is("4 of a top layer of 5", beds.rain(30, 1), 4);
        due.is("1 of a top layer of 1", beds.rain(30, 1), 1);
        due.is("an empty bed gives none", beds.rain(30, 1), 0);
    }

    private static void whatIsLaidCoversTheBed() {
        ChalkBeds beds = slope(180);
        beds.lay(0, COARSE, 10);
        beds.lay(1, FINE, 5);
        due.is("power(1, 5): enough for fine grains", beds.power(1, 5), 15);
        due.is("rain(5, 1)", beds.rain(5, 1), 0);
        due.is("but a coarse one covers them", Dump.layers(beds, 1), "c1 f5");
        ChalkBeds pool = slope(100, 0, 100, 150, 200, 200);
        pool.lay(0, COARSE, 1);
        pool.lay(2, FINE, 1);
        pool.lay(3, MIDDLE, 1);
        pool.rain(50, 1);
        due.is("coarse ones first, then middle ones, then fine ones", Dump.layers(pool, 1), "f1 m1 c1");
    }

    private static void whatIsLaidCoversTheRock() {
        ChalkBeds beds = slope(160);
        beds.set(HARD, 1);
        beds.lay(0, COARSE, 10);
        beds.rain(10, 1);
        due.is("the coarse grains lie on 1", Dump.layers(beds, 1), "c2");
        due.is("so its rock is not worn", beds.cell(1, 1), 110);
        due.is("that of 2 is", beds.cell(2, 1), 99);
        due.is("0 has a bed", beds.cell(0, 1), 160);
        due.is("grains of rock", beds.count(10), 10);
    }

    private static void aBedProtectsTheRock() {
        ChalkBeds beds = new ChalkBeds();
        beds.set(HARD, 1);
        beds.lay(0, COARSE, 1);
        due.is("power(0, 20)", beds.power(0, 20), 22);
        beds.rain(20, 1);
        due.is("a bed that is too coarse stays", beds.cell(0, 2), 1);
        due.is("and so does the rock", beds.cell(0, 1), 120);
        beds.rain(40, 1);
        due.is("the last grain is taken", beds.cell(0, 2), 0);
        due.is("the rock is not worn in the same shower", beds.cell(0, 1), 120);
        beds.rain(40, 1);
        due.is("in the next one it is", beds.cell(0, 1), 119);
    }

    private static void rockIsWornDownToNothing() {
        ChalkBeds beds = new ChalkBeds();
        beds.rock(11, 2);
        due.is("power(11, 50) of 2", beds.power(11, 50), 120);
        beds.rain(50, 1);
        due.is("1 is left", beds.cell(11, 1), 1);
        due.is("power(11, 50) of 1", beds.power(11, 50), 60);
        int grains = beds.count(10);
        due.is("rain(50, 1): all other cells give one too, but cell 0", beds.rain(50, 1), 11);
        due.is("nothing is left", beds.cell(11, 1), 0);
        due.is("each of them was rock", beds.count(10) - grains, 11);
        due.is("now it is a pool", beds.cell(11, 8), NONE);
        due.is("rain(50, 1) on it", beds.rain(50, 1), 0);
        due.is("its rock stays 0", beds.cell(11, 1), 0);
    }

    private static void rockIsWornFromItsPowerOn() {
        // HARD, the rain, the height of cell 0 at which its power is HARD; lower by 1 it is below.
        int[][] powers = {{1, 1, 120}, {60, 50, 122}, {400, 50, 190}};
        for (int[] p : powers) {
            ChalkBeds beds = new ChalkBeds();
            beds.set(HARD, p[0]);
            beds.rock(0, p[2]);
            beds.rain(p[1], 1);
            due.is("HARD " + p[0] + ", rain " + p[1], beds.cell(0, 1), p[2] - 1);
            beds.undo();
            beds.rock(0, p[2] - 1);
            beds.rain(p[1], 1);
            due.is("HARD " + p[0] + ", rain " + p[1] + ", a fall less by 1", beds.cell(0, 1), p[2] - 1);
        }
        ChalkBeds last = new ChalkBeds();
        due.is("power(11, 5) is HARD", last.power(11, 5), 60);
        last.rain(5, 1);
        due.is("it wears the rock", last.cell(11, 1), 9);
        last.undo();
        last.set(HARD, 61);
        last.rain(5, 1);
        due.is("it is below HARD by 1", last.cell(11, 1), 10);
    }

    private static void theSeaKeepsItsGrains() {
        ChalkBeds beds = slope();
        Texts.put(beds, "11:f2,m3,c4");
        beds.read();
        due.is("rain(33, 3)", beds.rain(33, 3), 9);
        due.is("rain(33, 3) tells only its own", beds.rain(33, 3), 0);
        beds.dig(11, 99);
        beds.rock(11, 0);
        beds.settle();
        beds.rain(1, 20);
        due.is("fine ones", beds.count(5), 2);
        due.is("middle ones", beds.count(6), 3);
        due.is("coarse ones", beds.count(7), 4);
    }

    private static void theWaterOfAPoolGoesAway() {
        ChalkBeds beds = slope();
        beds.rock(5, 0);
        due.is("water(5, 10)", beds.water(5, 10), 70);
        beds.rain(50, 20);
        due.is("water(5, 10) behind rain", beds.water(5, 10), 70);
        due.is("water(6, 10) behind it", beds.water(6, 10), 10);
    }

    private static void showersComeOneAfterTheOther() {
        for (int showers : new int[] {1, 2, 7, 20}) {
            ChalkBeds once = Witness.full();
            ChalkBeds often = Witness.full();
            int sum = 0;
            for (int i = 0; i < showers; i++) {
                sum += often.rain(25, 1);
            }
            due.is("rain(25, " + showers + ")", once.rain(25, showers), sum);
            due.is("what is there behind it", Dump.state(once), Dump.state(often));
        }
    }
}
