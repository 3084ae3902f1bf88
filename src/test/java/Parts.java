import java.util.LinkedHashMap;
import java.util.Map;
import java.util.Set;
import java.util.TreeSet;
import java.util.function.Supplier;

/** All that an object holds, part by part, as texts: its state, its history, its two slots and its pad. */
final class Parts {
    static final String STATE = "state";
    static final String HISTORY = "history";
    static final String SLOT_0 = "slot 0";
    static final String SLOT_1 = "slot 1";
    static final String PAD = "pad";

    // What follows a text that can still become whole: one of these makes it whole.
    private static final String[] ENDS = {"", "1", "f1", ":f1", "0:f1", ",c2", ";9:m3"};
    private static final int UNDOS = 7;

    private Parts() {
    }

    /** To look takes calls, and an object is good for 512: so each look has an object of its own. */
    static Map<String, String> of(Supplier<ChalkBeds> maker) {
        Map<String, String> parts = new LinkedHashMap<>();
        parts.put(STATE, Dump.state(maker.get()));
        parts.put(HISTORY, history(maker));
        parts.put(SLOT_0, slot(maker.get(), 0));
        parts.put(SLOT_1, slot(maker.get(), 1));
        parts.put(PAD, pad(maker));
        return parts;
    }

    /** The names of the parts that are not the same. */
    static Set<String> different(Map<String, String> one, Map<String, String> other) {
        Set<String> names = new TreeSet<>();
        for (String name : one.keySet()) {
            if (!one.get(name).equals(other.get(name))) {
                names.add(name);
            }
        }
        return names;
    }

    private static String history(Supplier<ChalkBeds> maker) {
        StringBuilder told = new StringBuilder().append(maker.get().count(18));
        for (int undos = 1; undos <= UNDOS; undos++) {
            ChalkBeds beds = maker.get();
            int answer = 0;
            for (int i = 0; i < undos; i++) {
                answer = beds.undo();
            }
            told.append('\n').append(brought(beds, answer));
        }
        return told.toString();
    }

    private static String slot(ChalkBeds beds, int slot) {
        return brought(beds, beds.restore(slot));
    }

    /** Where a call brings nothing back, there is only the state of before: another part. */
    private static String brought(ChalkBeds beds, int answer) {
        return answer + (answer < 0 ? "" : ": " + Dump.state(beds));
    }

    private static String pad(Supplier<ChalkBeds> maker) {
        StringBuilder told = new StringBuilder(Dump.pad(maker.get()));
        for (String end : ENDS) {
            ChalkBeds beds = maker.get();
            digOut(beds);
            told.append('\n').append(Texts.put(beds, end)).append(Dump.pad(beds)).append(" read ").append(beds.read());
            for (int cell = 0; cell < 12; cell++) {
                told.append('|').append(Dump.layers(beds, cell));
            }
        }
        return told.toString();
    }

    private static void digOut(ChalkBeds beds) {
        for (int cell = 0; cell < 12; cell++) {
            while (beds.cell(cell, 2) > 0) {
                beds.dig(cell, 99);
            }
        }
    }
}
