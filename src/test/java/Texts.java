/** Texts as the numbers that feed takes, and objects of the orders that they tell. */
final class Texts {
    /** One below fourteen, these below one: the Moebius value of the whole is 13. */
    static final String FAN = "free 16;0<1<15;0<2<15;0<3<15;0<4<15;0<5<15;0<6<15;0<7<15;0<8<15;0<9<15;0<10<15;0<11<15"
            + ";0<12<15;0<13<15;0<14<15";

    private Texts() {
    }

    /** Twenty signs from a place on as five numbers; zeros behind the text's end. */
    static int[] five(String text, int from) {
        int[] numbers = new int[5];
        for (int i = 0; i < 20; i++) {
            int sign = from + i < text.length() ? text.charAt(from + i) : 0;
            numbers[i / 4] |= sign << 24 - 8 * (i % 4);
        }
        return numbers;
    }

    /** Twenty signs of a text come behind the tape. */
    static int feed(OrderAlgebra x, String text, int from) {
        int[] n = five(text, from);
        return x.feed(n[0], n[1], n[2], n[3], n[4]);
    }

    /** A text on a tape that was empty. */
    static void write(OrderAlgebra x, String text) {
        for (int at = 0; at < text.length(); at += 20) {
            feed(x, text, at);
        }
        x.end(text.length());
    }

    /** A text told by a tape that was empty. */
    static int tell(OrderAlgebra x, String text) {
        write(x, text);
        return x.tell();
    }

    /** A new object that has been told a text. */
    static OrderAlgebra of(String text) {
        OrderAlgebra x = new OrderAlgebra();
        tell(x, text);
        return x;
    }

    /** What a new object answers when it is told a text. */
    static int told(String text) {
        return tell(new OrderAlgebra(), text);
    }
}
