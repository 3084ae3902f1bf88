/** Objects in which something stands that a call could spoil. */
final class Witness {
    private Witness() {
    }

    /** More than six changes, other settings, grains of each size in the sea, both slots, half a text on the pad. */
    static ChalkBeds full() {
        ChalkBeds beds = new ChalkBeds();
        beds.set(ChalkBeds.FINE, 3);
        beds.set(ChalkBeds.MIDDLE, 10);
        beds.set(ChalkBeds.COARSE, 28);
        beds.set(ChalkBeds.HARD, 50);
        beds.set(ChalkBeds.STEEP, 25);
        Texts.put(beds, "0:f40,c9,m3;4:m50;9:c30,f1;11:m5");
        beds.read();
        beds.save(0);
        beds.lay(1, ChalkBeds.COARSE, 33);
        beds.save(1);
        beds.undo();
        beds.rain(30, 3);
        beds.dig(4, 7);
        beds.rock(7, 3);
        beds.lay(2, ChalkBeds.MIDDLE, 60);
        beds.settle();
        beds.rain(20, 2);
        beds.dig(0, 5);
        Texts.put(beds, "3:f7,m");
        return beds;
    }

    /** Three changes, nothing in slot 1, a whole text on the pad. */
    static ChalkBeds partly() {
        ChalkBeds beds = new ChalkBeds();
        beds.lay(5, ChalkBeds.COARSE, 40);
        beds.save(0);
        beds.rain(45, 2);
        beds.dig(5, 1);
        Texts.put(beds, "10:c12");
        return beds;
    }

    /** A whole text of 60 on the pad, no change, nothing saved. */
    static ChalkBeds fullPad() {
        ChalkBeds beds = nearlyFullPad();
        beds.put(Texts.packed("11"));
        return beds;
    }

    /** A text of 58 on the pad that ends too early. */
    static ChalkBeds nearlyFullPad() {
        ChalkBeds beds = new ChalkBeds();
        Texts.put(beds, "0:f1,m1,c1,f1,m1,c1,f1,m1,c1;11:f1,m1,c1,f1,m1,c1,f1,m11,c");
        return beds;
    }
}
