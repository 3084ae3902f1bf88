/** All that can be asked of an object, as a text: to see whether a call changed anything. */
final class Dump {
    private Dump() {
    }

    static String of(ChalkBeds beds) {
        StringBuilder told = new StringBuilder();
        for (int what = 0; what <= 18; what++) {
            told.append(beds.count(what)).append(' ');
        }
        for (int cell = 0; cell < 12; cell++) {
            told.append('|');
            for (int what = 0; what <= 9; what++) {
                told.append(beds.cell(cell, what)).append(' ');
            }
            for (int layer = 0; layer < beds.cell(cell, 6); layer++) {
                told.append(beds.layer(cell, layer, 0)).append('x').append(beds.layer(cell, layer, 1)).append(' ');
            }
        }
        return told.append("| ").append(beds.fault()).toString();
    }
}
