/** "Banks", sentence by sentence, at their edges. */
public final class BanksTest {
    private static final int FINE = ChalkBeds.FINE;
    private static final int MIDDLE = ChalkBeds.MIDDLE;
    private static final int COARSE = ChalkBeds.COARSE;
    private static final int STEEP = ChalkBeds.STEEP;
    private static final Due due = new Due("BanksTest");

    private BanksTest() {
    }

    public static void main(String[] args) {
        aboveSteepAlone();
        onlyBedsFall();
        nothingFallsIntoTheSea();
        fromTheCells0And1On();
        heightsAsTheyAreThen();
        theTopGrainFalls();
        untilNoPairChanges();
        atMostTwoHundredTimes();
        behindEachShower();
        notBehindOtherChanges();
        due.end();
    }

    /** Flat rock without beds, at 100. */
    private static ChalkBeds flat(int steep) {
        ChalkBeds beds = new ChalkBeds();
        for (int cell = 0; cell < 12; cell++) {
            beds.rock(cell, 100);
        }
        beds.set(STEEP, steep);
        return beds;
    }

    private static void aboveSteepAlone() {
        for (int steep : new int[] {5, 30, 99}) {
            for (int cell = 0; cell < 12; cell++) {
                ChalkBeds beds = flat(steep);
                beds.lay(cell, FINE, steep);
                due.is("STEEP " + steep + ", as much above at " + cell, beds.settle(), 0);
                due.is("count(15)", beds.count(15), 0);
            }
            ChalkBeds front = flat(steep);
            front.lay(0, FINE, steep);
            front.rock(1, 99);
            due.is("STEEP " + steep + ", 1 more above behind", front.settle(), 1);
            due.is("it lies on 1", front.cell(1, 2), 1);
            ChalkBeds end = flat(steep);
            end.lay(11, FINE, steep);
            end.rock(10, 99);
            due.is("STEEP " + steep + ", 1 more above ahead", end.settle(), 1);
            due.is("it lies on 10", end.cell(10, 2), 1);
        }
        ChalkBeds most = flat(100);
        most.lay(4, FINE, 99);
        most.lay(4, FINE, 1);
        due.is("STEEP 100, as much above", most.settle(), 0);
        most.lay(4, FINE, 1);
        due.is("STEEP 100, 1 more above both", most.settle(), 1);
        due.is("the first pair is that of 3 and 4", most.cell(3, 2), 1);
        due.is("then 4 and 5 are no more too far apart", most.cell(5, 2), 0);
    }

    private static void onlyBedsFall() {
        ChalkBeds beds = flat(30);
        beds.rock(5, 200);
        due.is("bare rock stays", beds.settle(), 0);
        beds.lay(6, FINE, 9);
        due.is("a bed on the lower one does not rise", beds.settle(), 0);
        beds.lay(5, COARSE, 3);
        due.is("all three grains of the high rock fall", beds.settle(), 3);
        due.is("none is left", beds.cell(5, 2), 0);
        due.is("4 takes the first one and the third one", beds.cell(4, 5), 2);
        due.is("6 takes the second one", beds.cell(6, 5), 1);
        due.is("rock stays", beds.cell(5, 0), 200);
    }

    private static void nothingFallsIntoTheSea() {
        ChalkBeds beds = flat(5);
        beds.rock(10, 199);
        beds.rock(11, 195);
        beds.lay(11, FINE, 9);
        due.is("204 stands beside the sea", beds.settle(), 0);
        due.is("count(16) does not look at it", beds.count(16), 99);
        due.is("no grain in the sea", beds.count(5), 0);
    }

    private static void fromTheCells0And1On() {
        ChalkBeds beds = flat(30);
        beds.lay(5, FINE, 31);
        due.is("the pair of 4 and 5 comes first", beds.settle(), 1);
        due.is("4 gets the grain", beds.cell(4, 2), 1);
        due.is("6 gets none", beds.cell(6, 2), 0);
        beds.lay(5, FINE, 1);
        due.is("30 above 4, 31 above 6", beds.settle(), 1);
        due.is("6 gets the next one", beds.cell(6, 2), 1);
    }

    /** Stairs of STEEP: a grain that comes to the first one goes down until it finds a lower place, at one go. */
    private static void heightsAsTheyAreThen() {
        ChalkBeds beds = new ChalkBeds();
        beds.set(STEEP, 5);
        beds.rock(0, 100);
        for (int cell = 1; cell < 12; cell++) {
            beds.rock(cell, 100 - 5 * cell);
        }
        for (int i = 0; i < 6; i++) {
            beds.lay(0, FINE, 99);
        }
        // 11 grains fall 11, 10 .. 1 times, until all stairs are higher by 1: 18 times, and 2 grains more.
        due.is("settle()", beds.settle(), 18 * 66 + 11 + 10);
        due.is("200 have left 0", beds.cell(0, 2), 594 - 200);
        due.is("18 lie on 1", beds.cell(1, 2), 18);
        due.is("18 lie on 9", beds.cell(9, 2), 18);
        due.is("19 lie on 10", beds.cell(10, 2), 19);
        due.is("19 lie on 11", beds.cell(11, 2), 19);
    }

    private static void theTopGrainFalls() {
        ChalkBeds beds = flat(30);
        Texts.put(beds, "0:f20,m12,c1;1:m1");
        beds.read();
        due.is("settle(): 33 to 1", beds.settle(), 1);
        due.is("the coarse one has left", Dump.layers(beds, 0), "m12 f20");
        due.is("it lies on the middle one", Dump.layers(beds, 1), "c1 m1");
        beds.lay(0, FINE, 1);
        due.is("settle(): 33 to 2", beds.settle(), 1);
        due.is("three layers", Dump.layers(beds, 1), "f1 c1 m1");
        beds.lay(0, MIDDLE, 2);
        due.is("settle(): 34 to 3", beds.settle(), 1);
        beds.lay(0, MIDDLE, 2);
        due.is("settle(): 35 to 4", beds.settle(), 1);
        due.is("those of one size join", Dump.layers(beds, 1), "m2 f1 c1 m1");
    }

    private static void untilNoPairChanges() {
        ChalkBeds beds = flat(5);
        beds.lay(3, FINE, 99);
        int fallen = beds.settle();
        due.holds("many fall", fallen > 99);
        due.is("count(15)", beds.count(15), fallen);
        due.holds("no pair is too far apart", beds.count(16) <= 5);
        due.is("none falls when asked again", beds.settle(), 0);
        due.is("no grain is lost", beds.count(8), 99);
    }

    /** Cell 0 gives one grain at each go to the deep cell 1, and 2 is as high as 1 gets: no other pair changes. */
    private static ChalkBeds deep(int grains) {
        ChalkBeds beds = flat(5);
        beds.rock(0, 200);
        beds.rock(1, 0);
        beds.rock(2, 200);
        for (int left = grains; left > 0; left -= 99) {
            beds.lay(0, FINE, Math.min(left, 99));
        }
        return beds;
    }

    private static void atMostTwoHundredTimes() {
        ChalkBeds under = deep(203);
        due.is("403 to 0: 199 times", under.settle(), 199);
        due.is("and no more", under.settle(), 0);
        ChalkBeds same = deep(205);
        due.is("405 to 0: 200 times", same.settle(), 200);
        due.is("and no more", same.settle(), 0);
        ChalkBeds over = deep(207);
        due.is("407 to 0: 201 times, but at most 200", over.settle(), 200);
        due.is("the last one when asked again", over.settle(), 1);
        due.is("count(15)", over.count(15), 201);
        ChalkBeds rained = deep(207);
        rained.set(FINE, 1);
        rained.rain(1, 1);
        due.is("behind a shower too", rained.count(15), 200);
        due.is("a go is all pairs, not one", twoDeeps().settle(), 400);
    }

    /** Two pairs that each change 200 times. */
    private static ChalkBeds twoDeeps() {
        ChalkBeds beds = deep(205);
        beds.rock(10, 0);
        beds.rock(9, 200);
        beds.rock(11, 200);
        beds.lay(11, FINE, 99);
        beds.lay(11, FINE, 99);
        beds.lay(11, FINE, 7);
        return beds;
    }

    private static void behindEachShower() {
        ChalkBeds beds = new ChalkBeds();
        beds.set(ChalkBeds.HARD, 400);
        beds.lay(0, COARSE, 40);
        due.is("power(0, 1): too weak for coarse grains", beds.power(0, 1), 5);
        beds.rain(1, 1);
        due.is("160 to 110: ten fall behind the first shower", beds.count(15), 10);
        due.is("they lie on 1", beds.cell(1, 5), 10);
        beds.rain(1, 1);
        due.is("none behind the next one", beds.count(15), 10);

        ChalkBeds ahead = flat(5);
        ahead.set(FINE, 1);
        ahead.lay(0, FINE, 7);
        ahead.rain(20, 1);
        due.is("the shower comes first: 3 of 7 grains go to 1, none has to fall", ahead.count(15), 0);
        due.is("they lie there", ahead.cell(1, 2), 3);
    }

    private static void notBehindOtherChanges() {
        ChalkBeds beds = flat(30);
        Texts.put(beds, "4:f50");
        beds.read();
        due.is("read lets none fall", beds.cell(4, 0), 150);
        beds.lay(4, FINE, 10);
        due.is("nor does lay", beds.cell(4, 0), 160);
        beds.rock(3, 0);
        due.is("nor does rock", beds.cell(4, 0), 160);
        beds.set(STEEP, 5);
        due.is("nor does set", beds.cell(4, 0), 160);
        beds.dig(4, 1);
        due.is("nor does dig", beds.cell(4, 0), 159);
        beds.save(0);
        beds.restore(0);
        due.is("nor does restore", beds.cell(4, 0), 159);
        beds.undo();
        due.is("nor does undo", beds.cell(4, 0), 159);
        beds.ifRained(1, 1, 0);
        beds.untilBare(4, 1);
        due.is("nor do questions", beds.cell(4, 0), 159);
        due.is("count(15)", beds.count(15), 0);
    }
}
