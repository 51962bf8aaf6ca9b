/** Promises 29, 30 and 35: MOMENTS as a game, RESTS, a FILM. */
public final class MomentsTest {
    public static void main(String[] args) {
        moments();
        noMoments();
        rests();
        film();
        refusals();
        Check.end("MomentsTest");
    }

    private static SnapHeaps on(String moments) {
        SnapHeaps x = new SnapHeaps();
        Texts.table(x, "player 1 1 0 0;player 1 1 0 1;" + moments);
        return x;
    }

    private static void moments() {
        SnapHeaps x = on("moment 2;moment 3;moment 4;");
        // c is 7; the rows: the first one's choice, the columns: the other one's
        int[][] due = {
            {10 - 7 * 7, 20 - 7 * 7, 20 - 7 * 7, 20 - 7 * 7},
            {30 - 28, 25 - 28, 50 - 28, 50 - 28},
            {30 + 40, 40, 45, 90},
            {0, 0, 0, 0}};
        for (int one = 0; one < 4; one++) {
            for (int other = 0; other < 4; other++) {
                Check.due("moments " + one + " " + other, due[one][other], x.moments(one, other, 7));
            }
        }
        Check.due("no cost", 20, x.moments(0, 2, 0));
        Check.due("the most", 20 - 99 * 7, x.moments(0, 3, 99));
        SnapHeaps y = on("moment 0;moment 9;");
        Check.due("no weight", -9, y.moments(0, 2, 1));
        Check.due("the last", 90, y.moments(1, 0, 1));
    }

    private static void noMoments() {
        SnapHeaps x = on("");
        Check.due("never is the only choice", 0, x.moments(0, 0, 5));
        Check.due("one pair", 1, x.rests(5, 0));
        Check.due("of never", 0, x.rests(5, 1));
        Check.noNumber(x, "moments(1, 0, 0)", () -> x.moments(1, 0, 0));
    }

    private static void rests() {
        SnapHeaps x = on("moment 1;");
        Check.due("both call in it", 1, x.rests(9, 0));
        Check.due("0 and 0", 0, x.rests(9, 1));
        // ahead of MOMENT 1 costs c; in MOMENT 0 there is 1 of weight, in MOMENT 1 there are 9
        SnapHeaps y = on("moment 1;moment 9;");
        Check.due("who waits has more", 1, y.rests(2, 0));
        Check.due("both in the last", 101, y.rests(2, 1));
        SnapHeaps z = on("moment 9;moment 1;");
        Check.due("who calls first has more", 1, z.rests(2, 0));
        Check.due("both in the first", 0, z.rests(2, 1));
        SnapHeaps w = on("moment 0;moment 0;");
        Check.due("nothing to get: all pairs", 9, w.rests(50, 0));
        Check.due("the first", 0, w.rests(50, 1));
        // against 0 best is 0 (20 - 6) or 1 (30)? 1; against 1 best is 0 (40 - 6), if c is little
        SnapHeaps v = on("moment 4;moment 3;");
        Check.due("c 0: 0 against 1 gets 40, 1 against 1 gets 35 / 5 each", v.moments(0, 1, 0) > v.moments(1, 1, 0) ? 1 : 0, 1);
        Check.due("c 0: 0 against 0 gets 20, 1 against 0 gets 30", v.moments(1, 0, 0) > v.moments(0, 0, 0) ? 1 : 0, 1);
        Check.due("so one each: two pairs", 2, v.rests(0, 0));
        Check.due("the first: 0 and 1", 1, v.rests(0, 1));
        noRest();
    }

    /** Weights by which each choice is best against another one only: no pair rests. */
    private static void noRest() {
        int none = 0;
        for (int a = 0; a <= 9; a++) {
            for (int b = 0; b <= 9; b++) {
                SnapHeaps x = on("moment " + a + ";moment " + b + ";moment 9;moment " + b + ";");
                for (int c = 0; c <= 4; c++) {
                    if (x.rests(c, 0) == 0) {
                        none++;
                        Check.due("no first one", -1, x.rests(c, 1));
                    }
                }
            }
        }
        Check.holds("there are weights without a rest", none > 0);
    }

    private static void film(int a, int b, int c, int d, int first, int both, int below) {
        SnapHeaps x = new SnapHeaps();
        Check.due("film first", first, x.film(a, b, c, d, 0));
        Check.due("film both", both, x.film(a, b, c, d, 1));
        Check.due("film below", below, x.film(a, b, c, d, 2));
    }

    private static void film() {
        film(0, 0, 0, 0, 0, 1, 1);
        film(0, 0, 1, 1, 1, 0, 1);
        film(1, 1, 0, 0, 0, 0, 1);
        film(0, 3, 2, 5, 13, 2, 16);
        film(0, 9, 0, 9, 45, 10, 100);
        film(0, 99, 0, 99, 4950, 100, 10000);
        film(5, 9, 0, 4, 0, 0, 25);
        film(5, 9, 0, 5, 0, 1, 30);
        film(0, 4, 5, 9, 25, 0, 25);
        film(2, 4, 0, 99, 95 + 96 + 97, 3, 300);
    }

    private static void refusals() {
        SnapHeaps x = on("moment 2;moment 3;");
        Check.noNumber(x, "moments(3, 0, 0)", () -> x.moments(3, 0, 0));
        Check.noNumber(x, "moments(0, 3, 0)", () -> x.moments(0, 3, 0));
        Check.noNumber(x, "moments(-1, 0, 0)", () -> x.moments(-1, 0, 0));
        Check.noNumber(x, "moments(0, -1, 0)", () -> x.moments(0, -1, 0));
        Check.noNumber(x, "moments(0, 0, 100)", () -> x.moments(0, 0, 100));
        Check.noNumber(x, "moments(0, 0, -1)", () -> x.moments(0, 0, -1));
        Check.noNumber(x, "rests(100, 0)", () -> x.rests(100, 0));
        Check.noNumber(x, "rests(-1, 0)", () -> x.rests(-1, 0));
        Check.noNumber(x, "rests(0, 2)", () -> x.rests(0, 2));
        Check.noNumber(x, "rests(0, -1)", () -> x.rests(0, -1));
        int[][] wrong = {{-1, 0, 0, 0, 0}, {1, 0, 0, 0, 0}, {0, 100, 0, 0, 0}, {0, 0, -1, 0, 0}, {0, 0, 1, 0, 0},
            {0, 0, 0, 100, 0}, {0, 0, 0, 0, 3}, {0, 0, 0, 0, -1}, {0, -1, 0, 0, 0}, {100, 100, 0, 0, 0}};
        for (int[] w : wrong) {
            Check.noNumber(x, "film", () -> x.film(w[0], w[1], w[2], w[3], w[4]));
        }
    }
}
