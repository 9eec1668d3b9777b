import java.util.ArrayList;
import java.util.List;

/**
 * A text by way of tokens and of the rule that each may stand under: unlike the class, which reads byte by byte.
 */
final class TextModel {
    Model.Table order;
    int fault;

    private static final class Token {
        final int place;
        final String text;

        Token(int place, String text) {
            this.place = place;
            this.text = text;
        }

        boolean isNumber() {
            return !text.isEmpty() && Character.isDigit(text.charAt(0));
        }
    }

    TextModel(String text) {
        List<Token> tokens = tokens(text);
        String awaited = "kind";
        String kind = "";
        int last = -1;
        for (Token token : tokens) {
            int wrong = 0;
            switch (awaited) {
                case "kind":
                    kind = token.text;
                    wrong = List.of("free", "chain", "cube", "divisors", "parts").contains(kind) ? 0 : 1;
                    awaited = "number";
                    break;
                case "number":
                    wrong = !token.isNumber() ? 1 : build(kind, number(token)) ? 0 : 2;
                    awaited = "line or end";
                    break;
                case "line or end":
                    wrong = token.text.isEmpty() || token.text.equals(";") ? 0 : 1;
                    awaited = "first";
                    break;
                case "first":
                    wrong = !token.isNumber() ? 1 : number(token) >= order.n ? 2 : 0;
                    last = wrong == 0 ? number(token) : -1;
                    awaited = "less";
                    break;
                case "less":
                    wrong = token.text.equals("<") ? 0 : 1;
                    awaited = "next";
                    break;
                case "next":
                    wrong = !token.isNumber() ? 1 : number(token) >= order.n ? 2 : link(last, number(token)) ? 0 : 3;
                    last = wrong == 0 ? number(token) : -1;
                    awaited = "less, line or end";
                    break;
                default:
                    wrong = List.of("", ";", "<").contains(token.text) ? 0 : 1;
                    awaited = token.text.equals("<") ? "next" : "first";
                    break;
            }
            if (wrong != 0) {
                fault = 8 * token.place + wrong;
                return;
            }
        }
    }

    /** The last one is empty: the text's end. */
    private static List<Token> tokens(String text) {
        List<Token> all = new ArrayList<>();
        java.util.regex.Matcher m = java.util.regex.Pattern.compile("[a-z]+|[0-9]+|[^ ]", java.util.regex.Pattern.DOTALL)
                .matcher(text);
        while (m.find()) {
            all.add(new Token(m.start(), m.group()));
        }
        all.add(new Token(text.length(), ""));
        return all;
    }

    private static int number(Token token) {
        java.math.BigInteger big = new java.math.BigInteger(token.text);
        return big.min(java.math.BigInteger.valueOf(1000000)).intValue();
    }

    private boolean link(int a, int b) {
        if (order.le(b, a)) {
            return false;
        }
        order.below[a][b] = true;
        order.close();
        return true;
    }

    private boolean build(String kind, int n) {
        List<int[]> things = new ArrayList<>();
        if (kind.equals("free") || kind.equals("chain")) {
            for (int i = 0; i < n && n <= 16; i++) {
                things.add(new int[] {i});
            }
        } else if (kind.equals("cube")) {
            for (int i = 0; n <= 4 && i < 1 << n; i++) {
                things.add(new int[] {i});
            }
        } else if (kind.equals("divisors")) {
            for (int i = 1; i <= n && n <= 999; i++) {
                if (n % i == 0) {
                    things.add(new int[] {i});
                }
            }
        } else if (n >= 1 && n <= 4) {
            partings(new int[n], 0, 0, things);
        }
        if (things.isEmpty() || things.size() > 16) {
            return false;
        }
        order = new Model.Table(things.size());
        for (int a = 0; a < order.n; a++) {
            for (int b = 0; b < order.n; b++) {
                order.below[a][b] = a != b && below(kind, things.get(a), things.get(b));
            }
        }
        return true;
    }

    private static void partings(int[] row, int i, int used, List<int[]> all) {
        if (i == row.length) {
            all.add(row.clone());
            return;
        }
        for (int part = 0; part <= used; part++) {
            row[i] = part;
            partings(row, i + 1, Math.max(used, part + 1), all);
        }
    }

    private static boolean below(String kind, int[] a, int[] b) {
        switch (kind) {
            case "free":
                return false;
            case "chain":
                return a[0] < b[0];
            case "cube":
                return (a[0] & b[0]) == a[0];
            case "divisors":
                return b[0] % a[0] == 0;
            default:
                for (int i = 0; i < a.length; i++) {
                    for (int j = 0; j < a.length; j++) {
                        if (a[i] == a[j] && b[i] != b[j]) {
                            return false;
                        }
                    }
                }
                return true;
        }
    }
}
