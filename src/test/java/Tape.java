/** Puts texts on the TAPE of a PinPlan, for the tests. */
final class Tape {
    private Tape() {
    }

    /** The TAPE has just this text then (of at most 1,600 bytes). */
    static void put(PinPlan x, String text) {
        x.end(0);
        for (int i = 0; i < text.length(); i += 20) {
            int[] w = wordsAt(text, i);
            x.feed(w[0], w[1], w[2], w[3], w[4]);
        }
        x.end(text.length());
    }

    /** Twenty bytes of a text from a place on, as feed takes them; blanks behind its end. */
    static int[] wordsAt(String text, int place) {
        int[] w = new int[5];
        for (int j = 0; j < 20; j++) {
            int c = place + j < text.length() ? text.charAt(place + j) & 255 : ' ';
            w[j / 4] = w[j / 4] << 8 | c;
        }
        return w;
    }
}
