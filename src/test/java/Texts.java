/** Puts texts on the pad of an object. */
final class Texts {
    private Texts() {
    }

    static long packed(String signs) {
        long packed = 0;
        for (int i = 0; i < signs.length(); i++) {
            packed = packed << 8 | signs.charAt(i);
        }
        return packed;
    }

    static int put(ChalkBeds beds, String text) {
        int answer = beds.count(17);
        for (int i = 0; i < text.length(); i += 8) {
            answer = beds.put(packed(text.substring(i, Math.min(i + 8, text.length()))));
        }
        return answer;
    }
}
