/** What can be asked of an object, as a text: to see whether a call changed anything. */
final class Dump {
    private Dump() {
    }

    /** All that can be asked for. */
    static String of(ChalkBeds beds) {
        return state(beds) + pad(beds) + " changes " + beds.count(18);
    }

    /** What undo and restore bring back: settings, rock, beds, the sea, and the counts so far. */
    static String state(ChalkBeds beds) {
        StringBuilder told = new StringBuilder();
        for (int what = 0; what <= 16; what++) {
            told.append(beds.count(what)).append(' ');
        }
        for (int cell = 0; cell < 12; cell++) {
            told.append('|');
            for (int what = 0; what <= 9; what++) {
                told.append(beds.cell(cell, what)).append(' ');
            }
            told.append(layers(beds, cell));
        }
        return told.toString();
    }

    /** The layers of a cell from the top, each as its size and its thickness. */
    static String layers(ChalkBeds beds, int cell) {
        StringBuilder told = new StringBuilder();
        int layers = beds.cell(cell, 6);
        for (int layer = 0; layer < layers; layer++) {
            int size = beds.layer(cell, layer, 0);
            told.append(layer > 0 ? " " : "").append("fmc".charAt(size)).append(beds.layer(cell, layer, 1));
        }
        return told.toString();
    }

    static String pad(ChalkBeds beds) {
        return " pad " + beds.count(17) + " fault " + beds.fault();
    }
}
