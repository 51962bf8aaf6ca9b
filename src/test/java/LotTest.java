/** Promises 33, 34 and 36: SHUFFLED rows, LOTS, the TABLE of LAWS. */
public final class LotTest {
    public static void main(String[] args) {
        shuffled();
        shuffledWithWhatHasLain();
        shuffledLater();
        lot();
        lotOfOne();
        lotChangesNothing();
        laws();
        lawsByHand();
        refusals();
        Check.end("LotTest");
    }

    private static SnapHeaps on(String table) {
        SnapHeaps x = new SnapHeaps();
        Check.holds("a table: " + table, Texts.table(x, table) >= 2);
        return x;
    }

    /** What the document says, on letters. */
    private static String[] mixed(String[] rows, int seed) {
        String[] all = new String[rows.length];
        int s = seed;
        for (int p = 0; p < rows.length; p++) {
            char[] row = rows[p].toCharArray();
            for (int place = row.length; place >= 2; place--) {
                s = s * 1103515245 + 12345;
                int other = (s >>> 16 & 32767) % place;
                char c = row[place - 1];
                row[place - 1] = row[other];
                row[other] = c;
            }
            all[p] = new String(row);
        }
        return all;
    }

    private static void shuffled() {
        String[] rows = {"abcdefgh", "i", "jklmnoab"};
        int[] seeds = {0, 1, -1, 123456789, Integer.MIN_VALUE, 42};
        for (int seed : seeds) {
            SnapHeaps x = on("player 1 1 0 0;player 1 1 0 1;player 1 1 0 2;row 0 abcdefgh;row 1 i;row 2 jklmnoab;");
            x.shuffle(seed);
            String[] want = mixed(rows, seed);
            for (int p = 0; p < 3; p++) {
                Check.text("row " + p + " by " + seed, want[p], Ask.row(x, p));
            }
            x.shuffle(seed);
            String[] again = mixed(want, seed);
            Check.text("from where it was", again[0], Ask.row(x, 0));
        }
        // by hand: 0 becomes 12345, its bits from 16 on are 0; then 12345 * 1103515245 + 12345 ..
        SnapHeaps y = on("player 1 1 0 0;player 1 1 0 1;row 0 ab;");
        y.shuffle(0);
        Check.text("place 2 with place 0", "ba", Ask.row(y, 0));
    }

    private static void shuffledWithWhatHasLain() {
        SnapHeaps x = on("player 1 1 0 0;player 1 1 0 1;row 0 abcdefgh;row 1 abc;open 0 4;");
        x.shuffle(99);
        String want = mixed(new String[] {"ABCDefgh"}, 99)[0];
        Check.text("what has lain open goes with its card", want, Ask.row(x, 0));
    }

    private static void shuffledLater() {
        SnapHeaps x = on("player 1 1 9 0;player 1 1 9 1;row 0 abcdef;row 1 ghijkl;");
        x.play(3);
        x.shuffle(7);
        String[] want = mixed(new String[] {"cdef", "hijkl"}, 7);
        Check.text("heaps stay", want[0] + "/ab " + want[1] + "/g ", Ask.board(x));
        Check.due("the turn stays", 3, x.told(2));
        x = on("player 1 1 0 1;player 1 1 0 0;row 0 abc;row 1 abd;pace 1 9;pace 0 9;");
        x.draws(11);
        x.shuffle(22);
        int s = 11 * 1103515245 + 12345;
        Texts.plan(x, 0, "turn 1 0");
        x.play(1);
        Check.due("the seed that delays are drawn by stays", 1 + (s >>> 16 & 3), x.latest(2));
    }

    /** By ENDS of games that are shuffled one by one. */
    private static void lot(SnapHeaps x, int seed, int many) {
        int[] want = {Integer.MAX_VALUE, 0, 0, 0, 0, 0};
        for (int i = 0; i < many; i++) {
            x.image();
            x.shuffle(seed + i);
            int[] ends = Ask.ends(x);
            want[0] = Math.min(want[0], ends[1]);
            want[1] = Math.max(want[1], ends[1]);
            if (ends[0] != SnapHeaps.NONE) {
                want[2 + ends[0]]++;
            }
            want[5] += ends[2] == 1 ? 0 : 1;
            x.restore();
        }
        Check.row("lot of " + many + " by " + seed, Ask.lot(x, seed, many), want);
    }

    private static void lot() {
        SnapHeaps x = on("player 1 1 0 0;player 1 1 0 1;player 1 1 2 2;row 0 abcab;row 1 bcabc;row 2 cabca;");
        lot(x, 5, 20);
        lot(x, -3, 6);
        lot(x, Integer.MAX_VALUE - 1, 4);
        x.play(4);
        x.draws(6);
        lot(x, 100, 9);
        SnapHeaps y = on("player 1 1 0 0;player 1 1 0 1;row 0 ab;row 1 cd;");
        Check.row("none is over", Ask.lot(y, 1, 7), 8, 8, 0, 0, 0, 7);
        SnapHeaps z = on("player 1 1 0 0;player 1 1 0 1;row 0 a;row 1 a;");
        Check.row("all alike", Ask.lot(z, 1, 20), 2, 2, 0, 20, 0, 0);
        SnapHeaps w = on("player 1 1 0 0;player 1 1 0 1;row 0 a;");
        Check.row("over from the start", Ask.lot(w, 1, 3), 0, 0, 3, 0, 0, 0);
        SnapHeaps none = on("player 1 1 0 0;player 1 1 0 1;");
        Check.row("nobody is left", Ask.lot(none, 1, 3), 0, 0, 0, 0, 0, 0);
    }

    private static void lotOfOne() {
        SnapHeaps x = on("player 1 1 0 0;player 1 1 0 1;row 0 abcab;row 1 bcabc;");
        for (int seed = -2; seed < 3; seed++) {
            lot(x, seed, 1);
        }
    }

    private static void lotChangesNothing() {
        SnapHeaps x = on("player 1 1 0 0;player 1 1 0 1;row 0 abcab;row 1 bcabc;");
        x.play(2);
        String board = Ask.board(x);
        x.lot(9, 20, 0);
        x.laws(8, 0);
        Check.text("board", board, Ask.board(x));
        Check.due("undo", 2, x.undo(3));
    }

    private static void laws() {
        SnapHeaps x = on("player 1 1 0 0;player 1 1 0 0;player 1 1 0 2;row 0 abcab;row 1 bcabc;row 2 cabca;false 2;tie 1;");
        Texts.guess(x, 2, "turn 5 3");
        for (int which = 0; which < 9; which++) {
            int left = x.laws(which, 0);
            int length = x.laws(which, 1);
            x.image();
            x.law(0, which / 3);
            x.law(1, which % 3);
            Check.due("left by " + which, x.ends(0), left);
            Check.due("length by " + which, x.ends(1), length);
            x.restore();
        }
        Check.due("false stays", 2, x.told(5));
        Check.due("tie stays", 1, x.told(6));
    }

    private static void lawsByHand() {
        SnapHeaps x = on("player 1 1 0 2;player 1 1 0 2;row 0 a;row 1 a;false 1;tie 1;");
        int[] left = {0, -1, -1, 0, -1, -1, 0, -1, -1};
        int[] length = {2, 4, 2, 2, 4, 2, 2, 4, 2};
        for (int which = 0; which < 9; which++) {
            Check.due("who is left by " + which, left[which], x.laws(which, 0));
            Check.due("how long by " + which, length[which], x.laws(which, 1));
        }
        SnapHeaps y = on("player 1 1 0 0;player 1 1 0 1;row 0 ab;row 1 c;");
        Texts.guess(y, 0, "turn 60 0");
        Texts.plan(y, 1, "row<0");
        // 0: in TURN 0 his a goes to 1, in TURN 60 his b; 1: his b goes to the pool, then his a; 2: nothing goes
        for (int tie = 0; tie < 3; tie++) {
            Check.due("0: 1 is left", 1, y.laws(tie, 0));
            Check.due("0: behind TURN 60", 61, y.laws(tie, 1));
            Check.due("1: 1 is left", 1, y.laws(3 + tie, 0));
            Check.due("1: behind TURN 60", 61, y.laws(3 + tie, 1));
            Check.due("2: round", -1, y.laws(6 + tie, 0));
            Check.due("2: behind TURN 62 as behind TURN 2", 63, y.laws(6 + tie, 1));
        }
    }

    private static void refusals() {
        SnapHeaps x = on("player 1 1 0 0;player 1 1 0 1;row 0 ab;row 1 cd;");
        Check.noNumber(x, "lot(0, 0, 0)", () -> x.lot(0, 0, 0));
        Check.noNumber(x, "lot(0, 21, 0)", () -> x.lot(0, 21, 0));
        Check.noNumber(x, "lot(0, -1, 0)", () -> x.lot(0, -1, 0));
        Check.noNumber(x, "lot(0, 1, 6)", () -> x.lot(0, 1, 6));
        Check.noNumber(x, "lot(0, 1, -1)", () -> x.lot(0, 1, -1));
        Check.noNumber(x, "laws(9, 0)", () -> x.laws(9, 0));
        Check.noNumber(x, "laws(-1, 0)", () -> x.laws(-1, 0));
        Check.noNumber(x, "laws(0, 2)", () -> x.laws(0, 2));
        Check.noNumber(x, "laws(0, -1)", () -> x.laws(0, -1));
    }
}
