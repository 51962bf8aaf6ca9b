/** Promises 31 and 32: what to REMEMBER, and ODDS. */
public final class ChoiceTest {
    public static void main(String[] args) {
        rememberOne();
        rememberWhich();
        rememberLeastBits();
        rememberByPoolLaw();
        rememberOut();
        oddsOfTwo();
        oddsOfThree();
        oddsOut();
        oddsOfAll();
        nothingChanges();
        refusals();
        Check.end("ChoiceTest");
    }

    private static SnapHeaps on(String table) {
        SnapHeaps x = new SnapHeaps();
        Check.holds("a table: " + table, Texts.table(x, table) >= 2);
        return x;
    }

    private static void remember(SnapHeaps x, int player, int k, int cards, int bits) {
        Check.due("remember " + player + " " + k + ", cards", cards, x.remember(player, k, 0));
        Check.due("remember " + player + " " + k + ", bits", bits, x.remember(player, k, 1));
    }

    private static void rememberOne() {
        SnapHeaps x = on("player 1 1 9 0;player 1 1 9 1;row 0 a;row 1 a;");
        remember(x, 0, 0, 0, 0);
        remember(x, 0, 1, 2, 2);
        remember(x, 0, 4, 2, 2);
        remember(x, 1, 1, 2, 2);
        x.play(1);
        remember(x, 0, 1, 2, 1);
        x.play(1);
        // his heap is turned over, and the same card is laid again
        remember(x, 0, 1, 2, 1);
    }

    private static void rememberWhich() {
        // alike behind TURN 3 (two cards each) and behind TURN 5 (one each)
        SnapHeaps x = on("player 1 1 9 0;player 1 1 9 1;row 0 abcdefg;row 1 hbciklm;");
        remember(x, 0, 0, 7 - 2 - 1, 0);
        remember(x, 0, 1, 7 + 2 - 1, 1 << 3);
        remember(x, 0, 2, 7 + 2 + 1, 1 << 3 | 1 << 5);
        remember(x, 0, 4, 7 + 2 + 1, 1 << 3 | 1 << 5);
        remember(x, 1, 0, 7 - 2 - 1, 0);
    }

    private static void rememberLeastBits() {
        SnapHeaps x = on("player 1 1 9 0;player 1 1 9 1;row 0 cc;row 1 c;");
        // a TURN won early is lost again: none is as good, and has less bits
        remember(x, 1, 1, 0, 0);
        x = on("player 1 1 9 0;player 1 1 9 1;row 0 babb;row 1 aa;");
        // 4 and 1,024 would be as good
        remember(x, 1, 2, 5, 1024);
    }

    private static void rememberByPoolLaw() {
        String table = "player 1 1 9 0;player 1 1 0 1;player 1 1 9 2;row 0 abcd;row 1 gblo;row 2 fhie;false 1;";
        for (int law = 0; law <= 2; law++) {
            SnapHeaps x = on(table + "pool " + law + ";");
            Texts.guess(x, 1, "turn 60 0");
            x.play(1);
            Check.text("pool", "g", Ask.pool(x));
            int most = x.remember(0, 4, 0);
            x.law(2, 0);
            int without = x.remember(0, 4, 0);
            Check.due("with law " + law, without + (law == 2 ? 1 : 0), most);
        }
    }

    private static void rememberOut() {
        SnapHeaps x = on("player 1 1 9 0;player 1 1 9 1;player 1 1 9 2;row 0 ab;row 1 ac;");
        remember(x, 2, 4, 0, 0);
        remember(x, 0, 0, 1, 0);
        remember(x, 0, 1, 3, 2);
        SnapHeaps y = on("player 1 1 9 0;player 1 1 9 1;");
        remember(y, 0, 4, 0, 0);
        // the next one behind 1 is 0, for 2 is OUT
        remember(x, 1, 0, 1, 0);
    }

    private static void odds(SnapHeaps x, int player, int n, long above, long below) {
        Check.due("odds " + player + " " + n + ", above", above, x.odds(player, n, 0));
        Check.due("odds " + player + " " + n + ", below", below, x.odds(player, n, 1));
    }

    private static void oddsOfTwo() {
        SnapHeaps x = on("player 2 1 9 0;player 4 1 9 1;row 0 a;row 1 a;");
        odds(x, 0, 0, 0, 1);
        odds(x, 0, 1, 0, 1);
        odds(x, 0, 2, 1, 3);
        odds(x, 1, 2, 2, 3);
        odds(x, 0, 12, 1, 3);
        x = on("player 2 1 9 0;player 4 1 9 1;row 0 abc;row 1 de;");
        odds(x, 0, 0, 1, 1);
        odds(x, 0, 9, 1, 1);
        odds(x, 1, 9, 0, 1);
        x = on("player 1 1 9 0;player 2 1 9 1;row 0 abb;row 1 abb;");
        // behind TURN 1 one wins two cards: 4 to 2
        odds(x, 0, 2, 1, 3);
        odds(x, 1, 3, 2, 3);
        // behind TURN 3 b and b: 1, then 1 again (4 or 6), 0 then 1: 3 to 3 and so on
        odds(x, 0, 4, 1, 9);
        odds(x, 1, 4, 4, 9);
    }

    private static void oddsOfThree() {
        SnapHeaps x = on("player 1 1 9 0;player 2 1 9 1;player 3 1 9 2;row 0 ab;row 1 ac;row 2 de;");
        odds(x, 0, 1, 0, 1);
        odds(x, 0, 2, 1, 6);
        odds(x, 1, 2, 1, 3);
        odds(x, 2, 2, 1, 2);
    }

    private static void oddsOut() {
        SnapHeaps x = on("player 1 1 9 0;player 2 1 9 1;player 3 1 9 2;row 0 ab;row 1 ac;");
        // 2 is OUT: with 3 of 6 nobody wins
        odds(x, 0, 2, 1, 6);
        odds(x, 1, 2, 1, 3);
        odds(x, 2, 2, 0, 1);
        SnapHeaps y = on("player 1 1 9 0;player 2 1 9 1;player 3 1 9 2;row 0 ab;");
        odds(y, 0, 5, 1, 1);
        odds(y, 1, 5, 0, 1);
        SnapHeaps z = on("player 1 1 9 0;player 2 1 9 1;");
        odds(z, 0, 12, 0, 1);
    }

    private static void oddsOfAll() {
        SnapHeaps x = on("player 9 1 9 0;player 9 1 9 1;player 9 1 9 2;row 0 abababab;row 1 aabbaabb;row 2 abbaabba;");
        for (int n = 0; n <= 12; n++) {
            double all = 0;
            for (int p = 0; p < 3; p++) {
                all += (double) x.odds(p, n, 0) / x.odds(p, n, 1);
            }
            Check.holds("no more than 1 of all", all < 1.0000001);
        }
        SnapHeaps y = on("player 9 1 9 0;player 8 1 9 1;row 0 aaaaaaaaaa;row 1 aaaaaaaaa;");
        Check.holds("parts of 17 to the sixth or so", y.odds(0, 12, 1) > 17L * 17 * 17);
        Check.due("the denominators are powers of 17", 0, y.odds(0, 12, 1) % 17);
    }

    private static void nothingChanges() {
        SnapHeaps x = on("player 9 1 9 0;player 9 1 9 1;row 0 abab;row 1 aabb;");
        x.draws(4);
        x.play(1);
        String board = Ask.board(x);
        x.remember(0, 4, 0);
        x.odds(0, 12, 0);
        Check.text("board", board, Ask.board(x));
        Check.due("turn", 1, x.told(2));
        Check.due("whose", 1, x.told(3));
        Check.due("undo", 1, x.undo(5));
    }

    private static void refusals() {
        SnapHeaps x = on("player 9 1 9 0;player 9 1 9 1;row 0 abab;row 1 aabb;");
        Check.noPlayer(x, "remember(2, 9, 9)", () -> x.remember(2, 9, 9));
        Check.noPlayer(x, "remember(-1, 0, 0)", () -> x.remember(-1, 0, 0));
        Check.noNumber(x, "remember(0, 5, 0)", () -> x.remember(0, 5, 0));
        Check.noNumber(x, "remember(0, -1, 0)", () -> x.remember(0, -1, 0));
        Check.noNumber(x, "remember(0, 0, 2)", () -> x.remember(0, 0, 2));
        Check.noNumber(x, "remember(0, 0, -1)", () -> x.remember(0, 0, -1));
        Check.noPlayer(x, "odds(2, 13, 0)", () -> x.odds(2, 13, 0));
        Check.noPlayer(x, "odds(-1, 0, 0)", () -> x.odds(-1, 0, 0));
        Check.noNumber(x, "odds(0, 13, 0)", () -> x.odds(0, 13, 0));
        Check.noNumber(x, "odds(0, -1, 0)", () -> x.odds(0, -1, 0));
        Check.noNumber(x, "odds(0, 0, 2)", () -> x.odds(0, 0, 2));
        Check.noNumber(x, "odds(0, 0, -1)", () -> x.odds(0, 0, -1));
    }
}
