/** Texts as the numbers that feed takes. */
final class Texts {
    private Texts() {
    }

    /** Twenty signs from a place on as five numbers; zeros behind the text's end. */
    static int[] five(String text, int from) {
        int[] numbers = new int[5];
        for (int i = 0; i < 20; i++) {
            int sign = from + i < text.length() ? text.charAt(from + i) : 0;
            numbers[i / 4] |= sign << 24 - 8 * (i % 4);
        }
        return numbers;
    }

    /** A text on a tape that was empty. */
    static void write(OrderAlgebra x, String text) {
        for (int at = 0; at < text.length(); at += 20) {
            int[] n = five(text, at);
            x.feed(n[0], n[1], n[2], n[3], n[4]);
        }
        x.end(text.length());
    }
}
