/** Promises 9 to 17: cell, layer, count, water, power, leastRain, feeds, ifRained, untilBare. */
public final class QuestionsTest {
    private static final int FAR = Integer.MAX_VALUE;
    private static final int NEAR = Integer.MIN_VALUE;
    private static final Due due = new Due("QuestionsTest");

    private QuestionsTest() {
    }

    public static void main(String[] args) {
        cellTells();
        cellTellsOutlets();
        cellRefuses();
        layerTells();
        layerRefuses();
        countTells();
        countTellsOfAFlatSlope();
        countRefuses();
        waterTells();
        powerTells();
        leastRainFinds();
        leastRainFindsTheFirst();
        leastRainRefuses();
        feedsTells();
        ifRainedTells();
        ifRainedTellsWhatRainBrings();
        ifRainedRefuses();
        untilBareTells();
        untilBareTellsWhatRainBrings();
        untilBareRefuses();
        nothingChanges();
        due.end();
    }

    private static void cellTells() {
        ChalkBeds beds = new ChalkBeds();
        Texts.put(beds, "7:f5,m3,c2,f4,m1");
        beds.read();
        int[] about = {65, 50, 15, 9, 4, 2, 5, 1, 8, 25};
        for (int what = 0; what < about.length; what++) {
            due.is("cell(7, " + what + ")", beds.cell(7, what), about[what]);
        }
        due.is("6 has become a pool", beds.cell(6, 8), ChalkBeds.NONE);
        due.is("with no fall", beds.cell(6, 9), 0);
        beds.dig(7, 1);
        due.is("the top behind a dig", beds.cell(7, 7), 0);
    }

    private static void cellTellsOutlets() {
        ChalkBeds beds = new ChalkBeds();
        beds.rock(4, 60);
        due.is("of two with the same height the one behind", beds.cell(5, 8), 6);
        beds.rock(4, 59);
        due.is("the lower one ahead", beds.cell(5, 8), 4);
        due.is("its fall", beds.cell(5, 9), 11);
        due.is("3 falls to 4", beds.cell(3, 9), 31);
        beds.rock(5, 60);
        due.is("6 is as high as 5, 4 is lower", beds.cell(5, 8), 4);
        beds.rock(4, 60);
        due.is("none is lower", beds.cell(5, 8), ChalkBeds.NONE);
        due.is("no fall", beds.cell(5, 9), 0);
        beds.rock(10, 0);
        due.is("10 and the sea are 0", beds.cell(11, 8), 12);
        due.is("10 is a pool", beds.cell(10, 8), ChalkBeds.NONE);
        beds.rock(10, 1);
        due.is("the sea is lower than 10", beds.cell(11, 8), 12);
        beds.rock(11, 0);
        due.is("11 is as low as the sea", beds.cell(11, 8), ChalkBeds.NONE);
        beds.rock(0, 0);
        due.is("0 has no cell ahead", beds.cell(0, 8), ChalkBeds.NONE);
        beds.lay(0, 0, 99);
        beds.lay(0, 0, 12);
        due.is("beds count", beds.cell(0, 8), 1);
        due.is("fall of 0", beds.cell(0, 9), 1);
    }

    private static void cellRefuses() {
        ChalkBeds beds = new ChalkBeds();
        int[] none = {-1, 12, FAR, NEAR};
        for (int cell : none) {
            due.is("cell(" + cell + ", 0)", beds.cell(cell, 0), ChalkBeds.NO_SUCH);
            due.is("cell(" + cell + ", 10)", beds.cell(cell, 10), ChalkBeds.NO_SUCH);
        }
        int[] bad = {-1, 10, FAR, NEAR};
        for (int what : bad) {
            due.is("cell(0, " + what + ")", beds.cell(0, what), ChalkBeds.BAD_VALUE);
        }
    }

    private static void layerTells() {
        ChalkBeds beds = new ChalkBeds();
        Texts.put(beds, "0:c1,f2,m3");
        beds.read();
        for (int layer = 0; layer < 3; layer++) {
            due.is("layer(0, " + layer + ", 0)", beds.layer(0, layer, 0), new int[] {1, 0, 2}[layer]);
            due.is("layer(0, " + layer + ", 1)", beds.layer(0, layer, 1), 3 - layer);
        }
        ChalkBeds many = new ChalkBeds();
        for (int i = 0; i < 100; i++) {
            many.lay(9, i % 2, 1 + i % 7);
        }
        due.is("100 layers", many.cell(9, 6), 100);
        due.is("the lowest", many.layer(9, 99, 1), 1);
        due.is("the one above it", many.layer(9, 98, 1), 2);
        due.is("the top one", many.layer(9, 0, 1), 1 + 99 % 7);
        due.is("none below the lowest", many.layer(9, 100, 0), ChalkBeds.NO_SUCH);
    }

    private static void layerRefuses() {
        ChalkBeds beds = new ChalkBeds();
        beds.lay(0, 0, 1);
        int[][] none = {{-1, 0}, {12, 0}, {FAR, 0}, {NEAR, 0}, {1, 0}, {0, 1}, {0, -1}, {0, FAR}, {0, NEAR}};
        for (int[] n : none) {
            due.is("layer(" + n[0] + ", " + n[1] + ", 0)", beds.layer(n[0], n[1], 0), ChalkBeds.NO_SUCH);
            due.is("layer(" + n[0] + ", " + n[1] + ", 2)", beds.layer(n[0], n[1], 2), ChalkBeds.NO_SUCH);
        }
        int[] bad = {-1, 2, FAR, NEAR};
        for (int what : bad) {
            due.is("layer(0, 0, " + what + ")", beds.layer(0, 0, what), ChalkBeds.BAD_VALUE);
        }
    }

    private static void countTells() {
        ChalkBeds beds = new ChalkBeds();
        Texts.put(beds, "0:f10,m10,c10;11:f3");
        beds.read();
        beds.lay(11, 2, 2);
        beds.dig(0, 4);
        beds.dig(5, 9);
        beds.set(4, 20);
        beds.rock(3, 100);
        Texts.put(beds, "abc");
        int[] counts = {4, 12, 30, 60, 20, 0, 0, 0, 31, 790, 0, 35, 4, 0, 1, 0, 36, 3, 6};
        for (int what = 0; what < counts.length; what++) {
            due.is("count(" + what + ")", beds.count(what), counts[what]);
        }
        due.is("settle()", beds.settle(), 8);
        due.is("count(15)", beds.count(15), 8);
        due.is("count(18) stays 6", beds.count(18), 6);

        ChalkBeds sea = new ChalkBeds();
        Texts.put(sea, "11:f2,m3,c4");
        sea.read();
        sea.set(3, 400);
        due.is("rain(33, 3)", sea.rain(33, 3), 9);
        due.is("count(5)", sea.count(5), 2);
        due.is("count(6)", sea.count(6), 3);
        due.is("count(7)", sea.count(7), 4);
        due.is("count(13)", sea.count(13), 3);
        due.is("count(16): the sea is no cell", sea.count(16), 10);
        due.is("count(14)", sea.count(14), 0);
        sea.rock(11, 200);
        due.is("count(16) to the last cell", sea.count(16), 180);
        due.is("10 is a pool now", sea.count(14), 1);
    }

    private static void countTellsOfAFlatSlope() {
        ChalkBeds beds = new ChalkBeds();
        for (int k = 0; k < 12; k++) {
            beds.rock(k, 0);
        }
        due.is("count(16) of a flat slope", beds.count(16), 0);
        due.is("count(9) of it", beds.count(9), 0);
        due.is("count(14) of it: the sea is no lower", beds.count(14), 12);
        beds.rock(11, 1);
        due.is("count(16) of a step", beds.count(16), 1);
        due.is("count(14): 11 has an outlet", beds.count(14), 11);
    }

    private static void countRefuses() {
        ChalkBeds beds = new ChalkBeds();
        int[] bad = {-1, 19, FAR, NEAR, NEAR + 4, NEAR + 5, NEAR + 7};
        for (int what : bad) {
            due.is("count(" + what + ")", beds.count(what), ChalkBeds.BAD_VALUE);
        }
    }

    private static void waterTells() {
        ChalkBeds beds = new ChalkBeds();
        due.is("water(0, 1)", beds.water(0, 1), 1);
        due.is("water(11, 50)", beds.water(11, 50), 600);
        beds.rock(5, 0);
        due.is("water(5, 7) from both sides", beds.water(5, 7), 7 * 7);
        due.is("water(6, 7) behind a pool", beds.water(6, 7), 7);
        beds.rock(6, 55);
        beds.rock(7, 57);
        beds.rock(8, 90);
        due.is("water(5, 7) from 6 and 7 too", beds.water(5, 7), 8 * 7);
        refusesCellAndRain("water", beds);
    }

    private static void powerTells() {
        ChalkBeds beds = new ChalkBeds();
        due.is("power(0, 1)", beds.power(0, 1), 1);
        due.is("power(11, 50)", beds.power(11, 50), 600);
        beds.rock(0, 119);
        due.is("power(0, 1): 9 divided by 10", beds.power(0, 1), 0);
        due.is("power(0, 2): 18 divided by 10", beds.power(0, 2), 1);
        beds.rock(5, 0);
        due.is("power(5, 50) of a pool", beds.power(5, 50), 0);
        due.is("power(4, 3)", beds.power(4, 3), 15 * 80 / 10);
        refusesCellAndRain("power", beds);
    }

    private static int asked(String call, ChalkBeds beds, int cell, int rain) {
        return call.equals("water") ? beds.water(cell, rain) : beds.power(cell, rain);
    }

    private static void refusesCellAndRain(String call, ChalkBeds beds) {
        int[] none = {-1, 12, FAR, NEAR};
        for (int cell : none) {
            due.is(call + "(" + cell + ", 1)", asked(call, beds, cell, 1), ChalkBeds.NO_SUCH);
            due.is(call + "(" + cell + ", 0)", asked(call, beds, cell, 0), ChalkBeds.NO_SUCH);
        }
        int[] bad = {0, -1, 51, FAR, NEAR};
        for (int rain : bad) {
            due.is(call + "(0, " + rain + ")", asked(call, beds, 0, rain), ChalkBeds.BAD_VALUE);
        }
    }

    private static void leastRainFinds() {
        ChalkBeds beds = new ChalkBeds();
        due.is("leastRain(0, 0)", beds.leastRain(0, 0), 4);
        due.is("leastRain(0, 1)", beds.leastRain(0, 1), 12);
        due.is("leastRain(0, 2)", beds.leastRain(0, 2), 30);
        due.is("leastRain(11, 2)", beds.leastRain(11, 2), 3);
        due.is("leastRain(3, 0)", beds.leastRain(3, 0), 1);
        beds.set(2, 50);
        due.is("leastRain(0, 2) of 50", beds.leastRain(0, 2), 50);
        beds.set(2, 51);
        due.is("leastRain(0, 2) of 51", beds.leastRain(0, 2), ChalkBeds.NONE);
        beds.rock(0, 0);
        due.is("leastRain(0, 0) of a pool", beds.leastRain(0, 0), ChalkBeds.NONE);
    }

    private static void leastRainFindsTheFirst() {
        ChalkBeds beds = new ChalkBeds();
        beds.set(0, 1);
        due.is("leastRain(0, 0) of 1", beds.leastRain(0, 0), 1);
        beds.rock(0, 119);
        due.is("leastRain(0, 0), a fall of 9", beds.leastRain(0, 0), 2);
        beds.rock(0, 111);
        due.is("leastRain(0, 0), a fall of 1", beds.leastRain(0, 0), 10);
        beds.set(2, 200);
        beds.set(1, 200);
        beds.set(0, 6);
        due.is("leastRain(0, 0) of 6, a fall of 1: 60 divided by 10", beds.leastRain(0, 0), ChalkBeds.NONE);
        beds.set(0, 5);
        due.is("leastRain(0, 0) of 5, a fall of 1", beds.leastRain(0, 0), 50);
        due.is("leastRain(11, 2) of 200: 12 times 17 is 204", beds.leastRain(11, 2), 17);
        for (int size = 0; size < 3; size++) {
            for (int cell = 0; cell < 12; cell++) {
                int least = beds.leastRain(cell, size);
                int most = least == ChalkBeds.NONE ? 50 : least;
                boolean enough = beds.power(cell, most) >= beds.count(size);
                due.is("power at the least rain of " + cell, enough ? 1 : 0, least == ChalkBeds.NONE ? 0 : 1);
                if (least > 1) {
                    due.holds("and below it", beds.power(cell, least - 1) < beds.count(size));
                }
            }
        }
    }

    private static void leastRainRefuses() {
        ChalkBeds beds = new ChalkBeds();
        int[] none = {-1, 12, FAR, NEAR};
        for (int cell : none) {
            due.is("leastRain(" + cell + ", 3)", beds.leastRain(cell, 3), ChalkBeds.NO_SUCH);
        }
        int[] bad = {-1, 3, FAR, NEAR};
        for (int size : bad) {
            due.is("leastRain(0, " + size + ")", beds.leastRain(0, size), ChalkBeds.BAD_VALUE);
        }
    }

    private static void feedsTells() {
        ChalkBeds beds = new ChalkBeds();
        for (int k = 0; k < 12; k++) {
            due.is("feeds(" + k + ")", beds.feeds(k), (2 << k) - 1);
        }
        beds.rock(5, 0);
        beds.rock(6, 55);
        beds.rock(7, 57);
        beds.rock(8, 90);
        due.is("feeds(5)", beds.feeds(5), 0b11111111);
        due.is("feeds(6)", beds.feeds(6), 0b11000000);
        due.is("feeds(7)", beds.feeds(7), 0b10000000);
        due.is("feeds(8)", beds.feeds(8), 0b100000000);
        due.is("feeds(11)", beds.feeds(11), 0b111100000000);
        int[] none = {-1, 12, FAR, NEAR};
        for (int cell : none) {
            due.is("feeds(" + cell + ")", beds.feeds(cell), ChalkBeds.NO_SUCH);
        }
    }

    private static void ifRainedTells() {
        ChalkBeds beds = new ChalkBeds();
        beds.lay(0, 2, 10);
        due.is("ifRained(15, 1, 0)", beds.ifRained(15, 1, 0), 11);
        due.is("ifRained(15, 1, 1)", beds.ifRained(15, 1, 1), 9);
        due.is("ifRained(15, 1, 2)", beds.ifRained(15, 1, 2), 8);
        due.is("ifRained(15, 1, 3)", beds.ifRained(15, 1, 3), 0);
        due.is("rain(15, 1)", beds.rain(15, 1), 11);
        due.is("ifRained(15, 1, 0): only those to come", beds.ifRained(15, 1, 0), 9);
        due.is("ifRained(15, 1, 1): only those to come", beds.ifRained(15, 1, 1), 9);

        ChalkBeds pools = new ChalkBeds();
        pools.rock(1, 200);
        due.is("a pool now", pools.count(14), 1);
        due.is("ifRained(1, 50, 3)", pools.ifRained(1, 50, 3), 1);
        pools.lay(0, 0, 79);
        due.is("still a pool", pools.count(14), 1);
        pools.lay(1, 0, 40);
        pools.set(0, 1);
        due.is("ifRained(1, 1, 3): 4 grains fall on 0, and 1 gets bare", pools.ifRained(1, 1, 3), 0);

        ChalkBeds twice = new ChalkBeds();
        twice.lay(0, 0, 60);
        twice.set(4, 100);
        twice.set(3, 400);
        due.is("ifRained(5, 50, 0)", twice.ifRained(5, 50, 0), 50);
        due.is("ifRained(5, 50, 2)", twice.ifRained(5, 50, 2), 10);
        due.is("ifRained(5, 21, 0): more than rain takes", twice.ifRained(5, 21, 0), 21);
    }

    private static void ifRainedTellsWhatRainBrings() {
        for (int showers : new int[] {1, 2, 20, 21, 49, 50}) {
            ChalkBeds beds = Witness.full();
            int[] told = new int[4];
            for (int what = 0; what < 4; what++) {
                told[what] = beds.ifRained(17, showers, what);
            }
            int rockGrains = beds.count(10);
            int toSea = 0;
            for (int left = showers; left > 0; left -= 20) {
                toSea += beds.rain(17, Math.min(left, 20));
            }
            int[] came = {toSea, beds.count(10) - rockGrains, beds.count(8), beds.count(14)};
            for (int what = 0; what < 4; what++) {
                due.is("ifRained(17, " + showers + ", " + what + ")", told[what], came[what]);
            }
        }
    }

    private static void ifRainedRefuses() {
        ChalkBeds beds = new ChalkBeds();
        int[][] bad = {{0, 1, 0}, {51, 1, 0}, {NEAR, 1, 0}, {FAR, 1, 0}, {1, 0, 0}, {1, 51, 0}, {1, NEAR, 0},
            {1, FAR, 0}, {1, 1, -1}, {1, 1, 4}, {1, 1, NEAR}, {1, 1, FAR}};
        for (int[] b : bad) {
            String call = "ifRained(" + b[0] + ", " + b[1] + ", " + b[2] + ")";
            due.is(call, beds.ifRained(b[0], b[1], b[2]), ChalkBeds.BAD_VALUE);
        }
        due.is("ifRained(50, 50, 3)", beds.ifRained(50, 50, 3), beds.ifRained(50, 50, 3));
    }

    private static void untilBareTells() {
        ChalkBeds beds = new ChalkBeds();
        beds.set(4, 100);
        beds.set(3, 400);
        due.is("untilBare(0, 5) of bare rock", beds.untilBare(0, 5), 0);
        beds.lay(0, 0, 1);
        due.is("untilBare(0, 5) of 1 grain", beds.untilBare(0, 5), 1);
        beds.lay(0, 0, 49);
        due.is("untilBare(0, 5) of 50 grains", beds.untilBare(0, 5), 50);
        due.is("untilBare(0, 10), 2 a shower", beds.untilBare(0, 10), 25);
        beds.lay(0, 0, 1);
        due.is("untilBare(0, 5) of 51 grains", beds.untilBare(0, 5), ChalkBeds.NONE);
        due.is("untilBare(0, 10) of 51 grains", beds.untilBare(0, 10), 26);
        due.is("untilBare(0, 1): power 7 takes 1 each, until it is weak", beds.untilBare(0, 1), ChalkBeds.NONE);

        ChalkBeds banks = new ChalkBeds();
        banks.set(2, 200);
        banks.lay(5, 2, 3);
        banks.rock(6, 0);
        due.is("untilBare(5, 1): three grains fall with the bank", banks.untilBare(5, 1), 1);

        ChalkBeds noRock = new ChalkBeds();
        noRock.rock(3, 0);
        due.is("untilBare(3, 1) without a bed", noRock.untilBare(3, 1), 0);
        noRock.lay(3, 2, 1);
        due.is("untilBare(3, 1) of a pool with a bed", noRock.untilBare(3, 1), ChalkBeds.NONE);
    }

    private static void untilBareTellsWhatRainBrings() {
        for (int cell = 0; cell < 12; cell++) {
            for (int rain : new int[] {1, 9, 50}) {
                ChalkBeds beds = Witness.full();
                int told = beds.untilBare(cell, rain);
                int showers = 0;
                while (beds.cell(cell, 6) > 0 && showers < 51) {
                    beds.rain(rain, 1);
                    showers++;
                }
                due.is("untilBare(" + cell + ", " + rain + ")", told, showers > 50 ? ChalkBeds.NONE : showers);
            }
        }
        ChalkBeds both = new ChalkBeds();
        both.set(3, 400);
        both.set(4, 100);
        both.lay(0, 0, 25);
        both.lay(0, 1, 25);
        due.is("untilBare(0, 9), a grain a shower", both.untilBare(0, 9), 50);
        due.is("untilBare(0, 20), at most a layer a shower: 9 of 3 or less, twice", both.untilBare(0, 20), 18);
        both.lay(0, 1, 1);
        due.is("untilBare(0, 9) of a grain more", both.untilBare(0, 9), ChalkBeds.NONE);
    }

    private static void untilBareRefuses() {
        ChalkBeds beds = new ChalkBeds();
        int[] none = {-1, 12, FAR, NEAR};
        for (int cell : none) {
            due.is("untilBare(" + cell + ", 0)", beds.untilBare(cell, 0), ChalkBeds.NO_SUCH);
        }
        int[] bad = {0, -1, 51, FAR, NEAR};
        for (int rain : bad) {
            due.is("untilBare(0, " + rain + ")", beds.untilBare(0, rain), ChalkBeds.BAD_VALUE);
        }
    }

    private static void nothingChanges() {
        ChalkBeds beds = new ChalkBeds();
        Texts.put(beds, "0:f40,c9;4:m50;9:c80,f1");
        beds.read();
        beds.rock(7, 3);
        beds.save(0);
        Texts.put(beds, "3:");
        String before = Dump.of(beds);
        beds.water(3, 50);
        beds.power(3, 50);
        beds.leastRain(3, 2);
        beds.feeds(11);
        for (int what = 0; what < 4; what++) {
            beds.ifRained(50, 20, what);
        }
        beds.untilBare(9, 30);
        due.holds("questions change nothing", before.equals(Dump.of(beds)));
        due.is("nor the slots", beds.restore(0), 180);
        beds.undo();
        due.holds("and that can be undone", before.equals(Dump.of(beds)));
    }
}
