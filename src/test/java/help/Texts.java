/** Cuts texts into feed() calls. */
final class Texts {
    private Texts() {
    }

    /** The five numbers of the i-th feed of a text; behind its end stand zeros. */
    static int[] feedOf(String text, int i) {
        int[] five = new int[5];
        for (int k = 0; k < 20; k++) {
            int at = 20 * i + k;
            int sign = at < text.length() ? text.charAt(at) & 255 : 0;
            five[k / 4] = five[k / 4] << 8 | sign;
        }
        return five;
    }

    static int feedsOf(String text) {
        return (text.length() + 19) / 20;
    }

    static void feed(SnapHeaps x, String text) {
        for (int i = 0; i < feedsOf(text); i++) {
            int[] five = feedOf(text, i);
            x.feed(five[0], five[1], five[2], five[3], five[4]);
        }
    }

    static int table(SnapHeaps x, String text) {
        feed(x, text);
        return x.table(text.length());
    }

    static int plan(SnapHeaps x, int player, String text) {
        feed(x, text);
        return x.plan(player, text.length());
    }

    static int guess(SnapHeaps x, int player, String text) {
        feed(x, text);
        return x.guess(player, text.length());
    }

    static int book(SnapHeaps x, String text) {
        feed(x, text);
        return x.book(text.length());
    }
}
