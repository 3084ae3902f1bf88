/** Promises 18 to 23: put, wipe, fault, undo, save, restore. */
public final class TextsAndStatesTest {
    private static final int FAR = Integer.MAX_VALUE;
    private static final int NEAR = Integer.MIN_VALUE;
    private static final Due due = new Due("TextsAndStatesTest");

    private TextsAndStatesTest() {
    }

    public static void main(String[] args) {
        putAppends();
        putRefuses();
        putIsFull();
        putFillsUpToSixty();
        wipeEmpties();
        faultTells();
        faultTellsOfEachSign();
        faultTellsOfAFullPad();
        readsNumbersAtTheirEdges();
        readKeepsTheOrderOfTheText();
        undoGoesBack();
        undoKeepsSix();
        undoGoesRoundTheHistory();
        undoLeavesPadAndSlots();
        eachChangeIsRecorded();
        onlyChangesAreRecorded();
        saveKeeps();
        saveRefuses();
        restoreBrings();
        slotsStandApart();
        restoreRefuses();
        due.end();
    }

    private static void putAppends() {
        ChalkBeds beds = new ChalkBeds();
        due.is("put of one", beds.put('1'), 1);
        due.is("put of three", beds.put(Texts.packed("1:f")), 4);
        due.is("put of eight", beds.put(Texts.packed("12,m3,c4")), 12);
        due.is("read() of 11:f12,m3,c4", beds.read(), 19);
        due.is("laid in their order", beds.layer(11, 0, 0), 2);
        due.is("12 below", beds.layer(11, 2, 1), 12);
        due.is("the least code", beds.put(33), 1);
        due.is("the greatest code, eight times", beds.put(Texts.packed("~~~~~~~~")), 9);
        due.is("count(17)", beds.count(17), 9);
    }

    private static void putRefuses() {
        ChalkBeds beds = new ChalkBeds();
        long[] bad = {0, 32, 127, 128, 255, 256, 0x3000, 0x300030, 0x3000000000000030L, 0x1F30, 0x20303030L, -1,
            Long.MIN_VALUE, Long.MAX_VALUE, 0x7F30303030303030L, 0x8030303030303030L, 0x0130303030303030L, 0x3000L << 40};
        for (long b : bad) {
            due.is("put(" + b + ")", beds.put(b), ChalkBeds.BAD_VALUE);
        }
        due.is("nothing is put", beds.count(17), 0);
    }

    private static void putIsFull() {
        ChalkBeds beds = new ChalkBeds();
        for (int i = 1; i <= 7; i++) {
            due.is("put of eight", beds.put(Texts.packed("abcdefgh")), 8 * i);
        }
        due.is("put of five behind 56", beds.put(Texts.packed("abcde")), ChalkBeds.TOO_MANY);
        due.is("the pad stays", beds.count(17), 56);
        due.is("put of four behind 56", beds.put(Texts.packed("abcd")), 60);
        due.is("put of one behind 60", beds.put('a'), ChalkBeds.TOO_MANY);
        due.is("put of none behind 60", beds.put(0), ChalkBeds.BAD_VALUE);
        due.is("put of a bad one behind 60", beds.put(1), ChalkBeds.BAD_VALUE);
        due.is("count(17)", beds.count(17), 60);

        ChalkBeds full = new ChalkBeds();
        due.is("a text of 60", Texts.put(full, "0:f1,m1,c1,f1,m1,c1,f1,m1,c1;11:f1,m1,c1,f1,m1,c1,f1,m11,c11"), 60);
        due.is("has no fault", full.fault(), ChalkBeds.NONE);
        due.is("read() of 60", full.read(), 9 + 7 + 22);
    }

    private static ChalkBeds withPadOf(int signs) {
        ChalkBeds beds = new ChalkBeds();
        Texts.put(beds, "0".repeat(signs));
        return beds;
    }

    private static void putFillsUpToSixty() {
        for (int signs = 1; signs <= 8; signs++) {
            long more = Texts.packed("abcdefgh".substring(0, signs));
            due.is("put of " + signs + " behind " + (60 - signs), withPadOf(60 - signs).put(more), 60);
            due.is("put of " + signs + " behind " + (61 - signs), withPadOf(61 - signs).put(more), ChalkBeds.TOO_MANY);
            due.is("put of " + signs + " behind none", withPadOf(0).put(more), signs);
        }
        ChalkBeds beds = withPadOf(60);
        due.is("wipe() of a full pad", beds.wipe(), 60);
        due.is("put behind it", beds.put(Texts.packed("0:f1")), 4);
        due.is("read() behind it", beds.read(), 1);
    }

    private static void wipeEmpties() {
        ChalkBeds beds = new ChalkBeds();
        due.is("wipe() of nothing", beds.wipe(), 0);
        Texts.put(beds, "0:f1x");
        due.is("wipe()", beds.wipe(), 5);
        due.is("count(17)", beds.count(17), 0);
        due.is("fault() behind wipe()", beds.fault(), 0);
        Texts.put(beds, "0:m1");
        due.is("the text behind wipe()", beds.read(), 1);
        due.is("is a new one", beds.cell(0, 7), 1);
        Texts.put(beds, "0:m");
        beds.wipe();
        due.is("wipe is no change", beds.count(18), 1);
    }

    private static void faultTells() {
        Object[][] texts = {
            {"", 0}, {"x", 0}, {":", 0}, {"f1", 0}, {"-1", 0},
            {"0", 1}, {"1", 1}, {"9", 1}, {"10", 2}, {"11", 2}, {"12", 1}, {"19", 1}, {"20", 1}, {"00", 1}, {"01", 1},
            {"100", 2}, {"1f", 1}, {"10;", 2},
            {"0:", 2}, {"0::", 2}, {"0:x", 2}, {"0:F1", 2}, {"0:1", 2}, {"0:,", 2}, {"11:d", 3},
            {"0:f", 3}, {"0:f0", 3}, {"0:fm", 3}, {"0:f,", 3}, {"0:f;", 3}, {"0:c-", 3},
            {"0:f1", ChalkBeds.NONE}, {"1:f1", ChalkBeds.NONE}, {"10:m10", ChalkBeds.NONE}, {"11:c99", ChalkBeds.NONE},
            {"9:f9", ChalkBeds.NONE}, {"0:f100", 5}, {"0:f1x", 4}, {"0:f1:", 4}, {"0:f1f", 4}, {"0:f11f", 5},
            {"0:f1,", 5}, {"0:f1,,", 5}, {"0:f1,0", 5}, {"0:f1,m", 6}, {"0:f1,m2", ChalkBeds.NONE},
            {"0:f1;", 5}, {"0:f1;;", 5}, {"0:f1;f", 5}, {"0:f1;1", 6}, {"0:f1;12", 6}, {"0:f1;1:", 7},
            {"0:f1;1:c1", ChalkBeds.NONE}, {"0:f1;0:f1,f1", ChalkBeds.NONE}, {"0:f12,m34;11:c5;3:f6", ChalkBeds.NONE},
        };
        for (Object[] t : texts) {
            ChalkBeds beds = new ChalkBeds();
            Texts.put(beds, (String) t[0]);
            due.is("fault() of " + t[0], beds.fault(), (Integer) t[1]);
            due.holds("read() of " + t[0], (beds.read() == ChalkBeds.BAD_TEXT) == ((Integer) t[1] != ChalkBeds.NONE));
        }
    }

    /** Behind a text that can still become whole, each sign: which ones can stand there. */
    private static void faultTellsOfEachSign() {
        String digits = "0123456789";
        String[][] texts = {{"", digits}, {"0", ":"}, {"1", ":01"}, {"2", ":"}, {"9", ":"}, {"10", ":"}, {"11", ":"},
            {"0:", "fmc"}, {"11:", "fmc"}, {"0:f", "123456789"}, {"0:m", "123456789"}, {"0:c", "123456789"},
            {"0:f1", digits + ",;"}, {"0:f9", digits + ",;"}, {"0:f10", ",;"}, {"0:f99", ",;"},
            {"0:f1,", "fmc"}, {"0:f1;", digits}, {"0:f1;0", ":"}, {"0:f1;1", ":01"}, {"0:f1,c1", digits + ",;"}};
        for (String[] t : texts) {
            for (char sign = 33; sign <= 126; sign++) {
                ChalkBeds beds = new ChalkBeds();
                Texts.put(beds, t[0] + sign);
                boolean stands = beds.fault() != t[0].length();
                due.is("can stand behind " + t[0] + ": " + sign, stands ? 1 : 0, t[1].indexOf(sign) >= 0 ? 1 : 0);
            }
        }
    }

    private static void faultTellsOfAFullPad() {
        String layers = "10:f10,f10,f10,f10,f10,f10,f10,f10,f10,f10,f10,f10,f10,f10,";
        Object[][] texts = {{"f", 60}, {",", 59}, {"1", 59}, {"~", 59}};
        for (Object[] t : texts) {
            ChalkBeds beds = new ChalkBeds();
            due.is("a pad of 60 that ends with " + t[0], Texts.put(beds, layers + t[0]), 60);
            due.is("its fault", beds.fault(), (Integer) t[1]);
            due.is("read() of it", beds.read(), ChalkBeds.BAD_TEXT);
            due.is("it stays", beds.count(17), 60);
        }
        ChalkBeds wrongAtFirst = new ChalkBeds();
        Texts.put(wrongAtFirst, ":" + "0:f1;".repeat(11) + "0:f1");
        due.is("the first fault is told, not the last one", wrongAtFirst.fault(), 0);
        ChalkBeds whole = new ChalkBeds();
        due.is("a whole text of 60", Texts.put(whole, "0:f10;".repeat(9) + "11:c99"), 60);
        due.is("has no fault", whole.fault(), ChalkBeds.NONE);
        due.is("read() of it", whole.read(), 189);
        due.is("nine times on 0", Dump.layers(whole, 0), "f90");
        due.is("once on 11", Dump.layers(whole, 11), "c99");
    }

    private static void readsNumbersAtTheirEdges() {
        for (int cell = 0; cell < 12; cell++) {
            for (int thick : new int[] {1, 9, 10, 19, 90, 99}) {
                ChalkBeds beds = new ChalkBeds();
                Texts.put(beds, cell + ":m" + thick);
                due.is("read() of " + cell + ":m" + thick, beds.read(), thick);
                due.is("the bed of " + cell, Dump.layers(beds, cell), "m" + thick);
                due.is("no other bed", beds.count(8), thick);
            }
        }
        for (String text : new String[] {"12:m1", "0:m0", "0:m100", "00:m1", "0:m01", "011:m1"}) {
            ChalkBeds beds = new ChalkBeds();
            Texts.put(beds, text);
            due.is("read() of " + text, beds.read(), ChalkBeds.BAD_TEXT);
        }
    }

    private static void readKeepsTheOrderOfTheText() {
        ChalkBeds beds = new ChalkBeds();
        Texts.put(beds, "7:f1,c2;3:m4;7:c3,m5;3:f6");
        due.is("read()", beds.read(), 21);
        due.is("the layers of 7 from the top", Dump.layers(beds, 7), "m5 c5 f1");
        due.is("the layers of 3 from the top", Dump.layers(beds, 3), "f6 m4");
        Texts.put(beds, "3:f1");
        beds.read();
        due.is("read() on a bed", Dump.layers(beds, 3), "f7 m4");
        due.is("fault() behind read(): the pad is empty", beds.fault(), 0);
        due.is("read() behind read()", beds.read(), ChalkBeds.BAD_TEXT);
    }

    private static void undoGoesBack() {
        ChalkBeds beds = new ChalkBeds();
        String atFirst = Dump.of(beds);
        beds.set(3, 20);
        Texts.put(beds, "0:f20,c20;6:m50");
        beds.read();
        String laid = Dump.of(beds);
        beds.rain(40, 5);
        String rained = Dump.of(beds);
        beds.dig(0, 50);
        due.is("undo() of dig", beds.undo(), 3);
        due.holds("brings back the grains", rained.equals(Dump.of(beds)));
        due.is("undo() of rain", beds.undo(), 2);
        due.holds("brings back the sea and the counts", laid.equals(Dump.of(beds)));
        due.is("undo() of read", beds.undo(), 1);
        due.is("undo() of set", beds.undo(), 0);
        due.holds("brings back the settings", atFirst.equals(Dump.of(beds)));
        due.is("undo() of nothing", beds.undo(), ChalkBeds.NOT_POSSIBLE);
        due.holds("changes nothing", atFirst.equals(Dump.of(beds)));
    }

    private static void undoKeepsSix() {
        ChalkBeds beds = new ChalkBeds();
        for (int i = 1; i <= 8; i++) {
            beds.lay(0, 0, 1);
            due.is("count(18)", beds.count(18), Math.min(i, 6));
        }
        for (int i = 5; i >= 0; i--) {
            due.is("undo()", beds.undo(), i);
            due.is("grains", beds.count(8), i + 2);
        }
        due.is("the oldest two are dropped", beds.undo(), ChalkBeds.NOT_POSSIBLE);
        beds.lay(0, 1, 5);
        beds.lay(0, 2, 5);
        due.is("undo() behind new changes", beds.undo(), 1);
        due.is("the top", beds.cell(0, 7), 1);
        beds.lay(0, 2, 7);
        due.is("again", beds.undo(), 1);
        due.is("and again", beds.undo(), 0);
        due.is("two grains are left", beds.count(8), 2);
    }

    /** Many changes and undos by turns, so that the history begins at each of its places. */
    private static void undoGoesRoundTheHistory() {
        ChalkBeds beds = new ChalkBeds();
        int grains = 0;
        int kept = 0;
        for (int round = 0; round < 15; round++) {
            for (int i = 0; i < 5; i++) {
                beds.lay(0, 0, 1);
                grains++;
            }
            kept = Math.min(kept + 5, 6);
            due.is("count(18) in round " + round, beds.count(18), kept);
            for (int i = 0; i < 4; i++) {
                grains--;
                kept--;
                due.is("undo() in round " + round, beds.undo(), kept);
                due.is("grains in round " + round, beds.count(8), grains);
            }
        }
        for (int i = kept; i > 0; i--) {
            due.is("undo() at last", beds.undo(), i - 1);
        }
        due.is("undo() of nothing", beds.undo(), ChalkBeds.NOT_POSSIBLE);
        due.is("grains that can't be undone", beds.count(8), grains - kept);
        beds.lay(0, 0, 1);
        due.is("a history that was emptied takes changes", beds.undo(), 0);
    }

    private static void undoLeavesPadAndSlots() {
        ChalkBeds beds = new ChalkBeds();
        beds.lay(0, 0, 3);
        Texts.put(beds, "abc");
        beds.save(1);
        due.is("undo()", beds.undo(), 0);
        due.is("the pad stays", beds.count(17), 3);
        due.is("the slot stays", beds.restore(1), 3);
        due.is("restore can be undone", beds.undo(), 0);
        due.is("back without grains", beds.count(8), 0);
    }

    private static void eachChangeIsRecorded() {
        ChalkBeds beds = new ChalkBeds();
        due.is("set(4, 30), as before", beds.set(4, 30), 30);
        due.is("recorded", beds.count(18), 1);
        due.is("rock(0, 120), as before", beds.rock(0, 120), 120);
        due.is("recorded", beds.count(18), 2);
        due.is("dig(0, 1) of nothing", beds.dig(0, 1), 0);
        due.is("recorded", beds.count(18), 3);
        due.is("settle() of nothing", beds.settle(), 0);
        due.is("recorded", beds.count(18), 4);
        due.is("rain(1, 1) without grains", beds.rain(1, 1), 0);
        due.is("recorded", beds.count(18), 5);
        beds.lay(0, 0, 1);
        due.is("lay is recorded", beds.count(18), 6);
        beds.undo();
        beds.undo();
        due.is("the shower is undone", beds.count(13), 0);
        beds.undo();
        beds.undo();
        beds.undo();
        due.is("one is left", beds.count(18), 1);
    }

    private static void onlyChangesAreRecorded() {
        ChalkBeds beds = new ChalkBeds();
        Texts.put(beds, "0:f1");
        beds.wipe();
        beds.fault();
        beds.save(0);
        beds.undo();
        beds.set(0, 0);
        beds.set(0, 13);
        beds.rock(0, -1);
        beds.lay(0, 0, 0);
        beds.read();
        beds.dig(0, 0);
        beds.rain(0, 0);
        beds.restore(1);
        beds.restore(2);
        beds.ifRained(1, 1, 0);
        beds.untilBare(0, 1);
        due.is("nothing is recorded", beds.count(18), 0);
    }

    private static void saveKeeps() {
        ChalkBeds beds = new ChalkBeds();
        due.is("save(0) at first", beds.save(0), 0);
        beds.lay(4, 1, 9);
        beds.lay(5, 0, 1);
        due.is("save(1)", beds.save(1), 10);
        due.is("save(0) over the first", beds.save(0), 10);
        due.is("save is no change", beds.count(18), 2);
        beds.dig(4, 99);
        due.is("restore(0)", beds.restore(0), 10);
    }

    private static void saveRefuses() {
        ChalkBeds beds = new ChalkBeds();
        int[] bad = {-1, 2, FAR, NEAR};
        for (int slot : bad) {
            due.is("save(" + slot + ")", beds.save(slot), ChalkBeds.BAD_VALUE);
        }
        due.is("nothing is saved in 0", beds.restore(0), ChalkBeds.NOT_POSSIBLE);
        due.is("nothing is saved in 1", beds.restore(1), ChalkBeds.NOT_POSSIBLE);
    }

    private static void restoreBrings() {
        ChalkBeds beds = new ChalkBeds();
        beds.set(0, 2);
        beds.set(3, 10);
        Texts.put(beds, "2:f9,m9,c9");
        beds.read();
        beds.rain(30, 2);
        beds.save(0);
        String saved = Dump.state(beds);
        beds.set(4, 77);
        beds.lay(3, 0, 50);
        beds.rain(50, 20);
        beds.dig(2, 99);
        int left = beds.count(8);
        int inBeds = beds.restore(0);
        due.is("restore brings back all", Dump.state(beds), saved);
        due.is("restore() tells the grains", inBeds, beds.count(8));
        due.is("restore counts as a change", beds.count(18), 6);
        due.is("undo() of restore", beds.undo(), 5);
        due.is("brings back the grains", beds.count(8), left);
        due.is("and the settings", beds.count(4), 77);
        due.is("the slot keeps what was saved", beds.restore(0), inBeds);
        beds.wipe();
        Texts.put(beds, "zz");
        beds.restore(0);
        due.is("the pad stays", beds.count(17), 2);
        beds.lay(0, 0, 5);
        due.is("what is laid behind it is not in the slot", beds.restore(0), inBeds);
    }

    private static void slotsStandApart() {
        ChalkBeds beds = new ChalkBeds();
        beds.lay(0, 0, 3);
        beds.save(0);
        due.is("nothing is saved in 1", beds.restore(1), ChalkBeds.NOT_POSSIBLE);
        beds.lay(0, 0, 4);
        beds.save(1);
        beds.lay(0, 0, 5);
        due.is("restore(0)", beds.restore(0), 3);
        due.is("restore(1)", beds.restore(1), 7);
        due.is("restore(1) again", beds.restore(1), 7);
        beds.lay(0, 0, 1);
        due.is("save(1) over the last", beds.save(1), 8);
        due.is("restore(0) is still the first", beds.restore(0), 3);
        due.is("restore(1) is the last", beds.restore(1), 8);
        for (int i = 0; i < 6; i++) {
            beds.undo();
        }
        due.is("undo leaves what was saved", beds.restore(1), 8);
        due.is("in both", beds.restore(0), 3);
    }

    private static void restoreRefuses() {
        ChalkBeds beds = new ChalkBeds();
        beds.save(1);
        int[] bad = {-1, 2, FAR, NEAR};
        for (int slot : bad) {
            due.is("restore(" + slot + ")", beds.restore(slot), ChalkBeds.BAD_VALUE);
        }
        due.is("restore(0) of nothing", beds.restore(0), ChalkBeds.NOT_POSSIBLE);
        due.is("a refused restore is no change", beds.count(18), 0);
        due.is("restore(1)", beds.restore(1), 0);
    }
}
