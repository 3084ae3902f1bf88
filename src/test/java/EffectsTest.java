import java.util.HashSet;
import java.util.List;
import java.util.Map;
import java.util.Set;
import java.util.TreeSet;
import java.util.function.Consumer;
import java.util.function.Supplier;

/** Which parts of an object each call changes, and that an undo brings back those of a change. */
public final class EffectsTest {
    private static final Due due = new Due("EffectsTest");

    private EffectsTest() {
    }

    public static void main(String[] args) {
        theWitnessesTellEnough();
        for (Supplier<ChalkBeds> maker : List.<Supplier<ChalkBeds>>of(Witness::full, Witness::partly)) {
            changes(maker);
            changesWithoutADifference(maker);
            questions(maker);
            texts(maker);
            undoAndSlots(maker);
        }
        anUndoBringsAllBack();
        seeingIsNotKeeping();
        countsOfWhatWasDone();
        due.end();
    }

    /** States that are the same could be mixed up without a test seeing it. */
    private static void theWitnessesTellEnough() {
        Set<String> states = new HashSet<>();
        for (int undos = 0; undos <= 6; undos++) {
            ChalkBeds beds = Witness.full();
            for (int i = 0; i < undos; i++) {
                beds.undo();
            }
            states.add(Dump.state(beds));
        }
        due.is("states of the full one, with those of its history", states.size(), 7);
        for (int slot = 0; slot < 2; slot++) {
            ChalkBeds beds = Witness.full();
            beds.restore(slot);
            states.add(Dump.state(beds));
        }
        due.is("with those of its slots", states.size(), 9);
        ChalkBeds full = Witness.full();
        for (int what = 0; what <= 18; what++) {
            int atFirst = new ChalkBeds().count(what);
            due.holds("count(" + what + ") is another one than at first", full.count(what) != atFirst);
        }
    }

    private static void changed(String call, Supplier<ChalkBeds> maker, Consumer<ChalkBeds> made, String... parts) {
        Map<String, String> after = Parts.of(() -> with(maker, made));
        Set<String> wanted = new TreeSet<>(List.of(parts));
        Set<String> got = Parts.different(Parts.of(maker), after);
        due.is("parts that " + call + " changes", got.toString(), wanted.toString());
    }

    private static ChalkBeds with(Supplier<ChalkBeds> maker, Consumer<ChalkBeds> made) {
        ChalkBeds beds = maker.get();
        made.accept(beds);
        return beds;
    }

    private static void changes(Supplier<ChalkBeds> maker) {
        changed("set", maker, beds -> beds.set(4, 90), Parts.STATE, Parts.HISTORY);
        changed("rock", maker, beds -> beds.rock(3, 1), Parts.STATE, Parts.HISTORY);
        changed("lay", maker, beds -> beds.lay(3, 1, 1), Parts.STATE, Parts.HISTORY);
        changed("read", maker, EffectsTest::readAText, Parts.STATE, Parts.HISTORY, Parts.PAD);
        changed("dig", maker, beds -> beds.dig(fullest(beds), 1), Parts.STATE, Parts.HISTORY);
        changed("rain", maker, beds -> beds.rain(1, 1), Parts.STATE, Parts.HISTORY);
        changed("settle", maker, EffectsTest::settleABank, Parts.STATE, Parts.HISTORY);
        changed("restore", maker, beds -> beds.restore(0), Parts.STATE, Parts.HISTORY);
    }

    private static int fullest(ChalkBeds beds) {
        int fullest = 0;
        for (int cell = 1; cell < 12; cell++) {
            fullest = beds.cell(cell, 2) > beds.cell(fullest, 2) ? cell : fullest;
        }
        return fullest;
    }

    private static void readAText(ChalkBeds beds) {
        beds.wipe();
        Texts.put(beds, "3:f7");
        due.is("read()", beds.read(), 7);
    }

    private static void settleABank(ChalkBeds beds) {
        beds.set(4, 5);
        due.holds("grains fall", beds.settle() > 0);
    }

    private static void changesWithoutADifference(Supplier<ChalkBeds> maker) {
        changed("set to what was", maker, beds -> beds.set(4, beds.count(4)), Parts.HISTORY);
        changed("rock to what was", maker, beds -> beds.rock(3, beds.cell(3, 1)), Parts.HISTORY);
        changed("dig of an empty bed", maker, beds -> beds.dig(11, 9), Parts.HISTORY);
        Supplier<ChalkBeds> settled = () -> with(maker, ChalkBeds::settle);
        changed("settle without a bank", settled, ChalkBeds::settle, Parts.HISTORY);
        Supplier<ChalkBeds> restored = () -> with(maker, beds -> beds.restore(0));
        changed("restore of what is there", restored, beds -> beds.restore(0), Parts.HISTORY);
    }

    private static void questions(Supplier<ChalkBeds> maker) {
        changed("cell", maker, EffectsTest::askCells);
        changed("layer", maker, beds -> beds.layer(fullest(beds), 0, 1));
        changed("count", maker, EffectsTest::askCounts);
        changed("water", maker, beds -> beds.water(11, 50));
        changed("power", maker, beds -> beds.power(11, 50));
        changed("leastRain", maker, beds -> beds.leastRain(3, 2));
        changed("feeds", maker, beds -> beds.feeds(11));
        for (int what = 0; what <= 3; what++) {
            int asked = what;
            changed("ifRained " + what, maker, beds -> beds.ifRained(50, 50, asked));
        }
        changed("untilBare", maker, beds -> beds.untilBare(fullest(beds), 50));
        changed("fault", maker, ChalkBeds::fault);
    }

    private static void askCells(ChalkBeds beds) {
        for (int cell = 0; cell < 12; cell++) {
            for (int what = 0; what <= 9; what++) {
                beds.cell(cell, what);
            }
        }
    }

    private static void askCounts(ChalkBeds beds) {
        for (int what = 0; what <= 18; what++) {
            beds.count(what);
        }
    }

    private static void texts(Supplier<ChalkBeds> maker) {
        changed("put", maker, beds -> beds.put('1'), Parts.PAD);
        changed("wipe", maker, ChalkBeds::wipe, Parts.PAD);
        changed("wipe of an empty pad", () -> with(maker, ChalkBeds::wipe), ChalkBeds::wipe);
    }

    private static void undoAndSlots(Supplier<ChalkBeds> maker) {
        changed("undo", maker, ChalkBeds::undo, Parts.STATE, Parts.HISTORY);
        changed("save(0)", maker, beds -> beds.save(0), Parts.SLOT_0);
        changed("save(1)", maker, beds -> beds.save(1), Parts.SLOT_1);
        changed("save(1) again", () -> with(maker, beds -> beds.save(1)), beds -> beds.save(1));
    }

    /** With room in the history, a change and its undo are as nothing: but the pad that was read stays empty. */
    private static void anUndoBringsAllBack() {
        undone("set", beds -> beds.set(2, 77));
        undone("rock", beds -> beds.rock(5, 0));
        undone("lay", beds -> beds.lay(5, 0, 99));
        undone("read", ChalkBeds::read, Parts.PAD);
        undone("dig", beds -> beds.dig(5, 99));
        undone("rain", beds -> beds.rain(50, 20));
        undone("settle", ChalkBeds::settle);
        undone("restore", beds -> beds.restore(0));
        undone("a change of nothing", beds -> beds.dig(0, 1));
    }

    private static void undone(String call, Consumer<ChalkBeds> made, String... parts) {
        changed(call + " and undo", Witness::partly, beds -> {
            made.accept(beds);
            due.is("undo of " + call, beds.undo(), 3);
        }, parts);
    }

    /** What was saved or recorded does not change with the beds that it was taken from. */
    private static void seeingIsNotKeeping() {
        for (int slot = 0; slot < 2; slot++) {
            ChalkBeds beds = Witness.full();
            beds.save(slot);
            String saved = Dump.state(beds);
            beds.lay(0, 1, 99);
            beds.rain(50, 20);
            beds.set(0, 1);
            beds.restore(slot);
            due.is("slot " + slot, Dump.state(beds), saved);
            beds.rain(50, 20);
            beds.rock(1, 0);
            beds.restore(slot);
            due.is("slot " + slot + " once more", Dump.state(beds), saved);
        }
    }

    private static void countsOfWhatWasDone() {
        ChalkBeds beds = new ChalkBeds();
        Texts.put(beds, "0:c9;5:f40");
        beds.read();
        beds.lay(9, 1, 60);
        beds.rock(3, 10);
        due.is("rock() makes no grains", beds.count(10), 0);
        beds.rain(50, 5);
        due.is("laid: only by lay and read", beds.count(11), 109);
        due.is("dug: only by dig", beds.count(12), 0);
        beds.dig(11, 99);
        due.is("showers so far", beds.count(13), 5);
        beds.ifRained(50, 50, 0);
        beds.untilBare(9, 1);
        due.is("but not those that might come", beds.count(13), 5);
        int inSea = beds.count(5) + beds.count(6) + beds.count(7);
        due.is("all chalk is somewhere", beds.count(8) + inSea + beds.count(12), beds.count(11) + beds.count(10));
    }
}
