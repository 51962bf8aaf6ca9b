/** Promises 24 to 28: ENDS, WHERE, CHANCE, LINE, the worth of calling ahead. */
public final class AheadTest {
    public static void main(String[] args) {
        endsOver();
        endsRound();
        endsRoundOfThree();
        endsRoundAtTheLast();
        endsRoundByTurns();
        endsRoundDrawn();
        endsTooLong();
        endsChangesNothing();
        where();
        chance();
        chanceRemembered();
        waits();
        ahead();
        refusals();
        Check.end("AheadTest");
    }

    private static SnapHeaps on(String table) {
        SnapHeaps x = new SnapHeaps();
        Check.holds("a table: " + table, Texts.table(x, table) >= 2);
        return x;
    }

    private static void endsOver() {
        SnapHeaps x = on("player 1 1 0 0;player 1 1 0 1;row 0 a;row 1 a;");
        Check.row("1 wins all", Ask.ends(x), 1, 2, 1, 0);
        x.play(1);
        Check.row("one turn less", Ask.ends(x), 1, 1, 1, 0);
        x.play(1);
        Check.row("it is over", Ask.ends(x), 1, 0, 1, 0);
        x = on("player 1 1 0 0;player 1 1 0 1;player 1 1 0 1;row 2 abc;");
        Check.row("only 2 has cards", Ask.ends(x), 2, 0, 1, 0);
        x = on("player 1 1 0 0;player 1 1 0 1;");
        Check.row("nobody has", Ask.ends(x), -1, 0, 1, 0);
    }

    private static void endsRound() {
        SnapHeaps x = on("player 1 1 0 0;player 1 1 0 1;row 0 a;row 1 b;");
        // behind TURN 1 both have laid; TURN 2 turns a card over and lays it: as behind TURN 1, but for whose it is
        Check.row("a turn's state comes back two later", Ask.ends(x), -1, 4, 2, 2);
        x.play(2);
        Check.row("from where it goes round", Ask.ends(x), -1, 2, 2, 2);
        x = on("player 1 1 0 0;player 1 1 0 1;row 0 ab;row 1 cde;");
        Check.row("two cards against three", Ask.ends(x), -1, 18, 2, 12);
        x = on("player 1 1 0 0;player 1 1 0 1;row 0 ab;row 1 cd;open 0 2;open 1 2;");
        Check.row("open from the start: behind TURN 6 as behind TURN 2", Ask.ends(x), -1, 6, 2, 4);
    }

    private static void endsRoundOfThree() {
        SnapHeaps x = on("player 1 1 0 0;player 1 1 0 1;player 1 1 0 2;row 0 a;row 1 b;row 2 c;");
        Check.row("an odd number of turns", Ask.ends(x), -1, 6, 2, 3);
        Texts.guess(x, 2, "turn 7 1 and alike");
        Check.row("by 7", Ask.ends(x), -1, 24, 2, 21);
    }

    /** 30 cards each: behind 60 TURNS all have lain open; 60 and 49 leave the same again 2,940 TURNS later. */
    private static void endsRoundAtTheLast() {
        String cards = "abcdefghijklmno".repeat(2);
        SnapHeaps x = on("player 1 1 9 0;player 1 1 9 1;row 0 " + cards + ";row 1 " + cards + ";");
        Texts.plan(x, 0, "row<0 and turn 49 0");
        Texts.plan(x, 1, "row<0");
        Check.row("at the very end it is round", Ask.ends(x), -1, 3000, 2, 2940);
        x = on("player 1 1 9 0;player 1 1 9 1;row 0 " + cards + ";row 1 " + cards.substring(1) + ";");
        Texts.plan(x, 0, "row<0 and turn 49 0");
        Texts.plan(x, 1, "row<0");
        Check.due("30 and 29: it would be later", 0, x.ends(2));
    }

    private static void endsRoundByTurns() {
        SnapHeaps x = on("player 1 1 0 0;player 1 1 0 1;row 0 a;row 1 b;");
        Texts.plan(x, 0, "turn 7 0 and alike");
        Check.row("the number counts by 7", Ask.ends(x), -1, 16, 2, 14);
        Texts.guess(x, 1, "turn 5 0 and alike");
        Check.row("and by 5", Ask.ends(x), -1, 72, 2, 70);
        Texts.plan(x, 1, "turn 59 3 and alike");
        Check.row("too long then: 7 * 5 * 59 * 2 are more than 3,000", Ask.ends(x), -1, 3000, 0, 0);
        Texts.plan(x, 0, "alike");
        Texts.guess(x, 1, "turn 25 0 and alike");
        Check.row("25 * 59 * 2 = 2950", Ask.ends(x), -1, 2952, 2, 2950);
        Texts.guess(x, 1, "turn 24 0 and alike or turn 12 0 and alike");
        Check.row("24 * 59 = 1416", Ask.ends(x), -1, 1418, 2, 1416);
        Texts.guess(x, 1, "turn 51 0 and alike");
        Check.row("51 * 59 = 3009", Ask.ends(x), -1, 3000, 0, 0);
    }

    private static void endsRoundDrawn() {
        SnapHeaps x = on("player 1 1 0 0;player 1 1 0 1;row 0 a;row 1 b;");
        x.draws(5);
        Check.row("drawn, but nobody calls", Ask.ends(x), -1, 4, 2, 2);
        x = on("player 1 1 0 0;player 1 1 0 1;row 0 ab;row 1 cd;false 2;");
        Texts.plan(x, 0, "turn 1 0");
        Check.row("called in each turn, false", Ask.ends(x), -1, 8, 2, 4);
        x.draws(5);
        Check.row("the seed goes on", Ask.ends(x), -1, 3000, 0, 0);
        x.still();
        Check.row("drawn no more", Ask.ends(x), -1, 8, 2, 4);
    }

    private static void endsTooLong() {
        SnapHeaps x = on("player 1 1 0 0;player 1 1 0 1;row 0 a;row 1 b;");
        Texts.plan(x, 0, "turn 60 0 and alike");
        Texts.plan(x, 1, "turn 59 0 and alike");
        Check.row("too long", Ask.ends(x), -1, 3000, 0, 0);
        x.play(999);
        Check.row("from any turn on", Ask.ends(x), -1, 3000, 0, 0);
    }

    private static void endsChangesNothing() {
        SnapHeaps x = on("player 1 1 0 0;player 1 1 0 1;row 0 abc;row 1 bac;");
        x.draws(3);
        x.play(3);
        String board = Ask.board(x);
        int[] latest = Ask.latest(x);
        x.ends(1);
        x.laws(4, 1);
        x.lot(4, 5, 1);
        Check.text("board", board, Ask.board(x));
        Check.due("turn", 3, x.told(2));
        Check.row("latest", Ask.latest(x), latest);
        Check.due("undo", 3, x.undo(9));
        int length = x.ends(1);
        int left = x.ends(0);
        Check.due("as long as it takes", length, x.ends(2) == 1 ? x.play(999) : length);
        Check.due("who is left", left, x.ends(0));
    }

    private static void where() {
        SnapHeaps x = on("player 1 1 0 0;player 1 1 0 1;row 0 abc;row 1 bac;");
        // tops: a, ab, bb*, ba, ca, cc*, then the heaps are turned over: ac (c was), ..
        int[] want = {2, 5, 8, 11, 14};
        for (int i = 0; i < want.length; i++) {
            Check.due("where " + i, want[i], x.where(i));
        }
        Check.due("the last", 59, x.where(19));
        Check.due("no more", -1, x.where(20));
        Check.due("none such", -1, x.where(-1));
        Check.due("none such", -1, x.where(1000000000));
        x.play(1);
        Check.due("from now on", 1, x.where(0));
        x = on("player 1 1 0 0;player 1 1 0 1;row 0 a;row 1 a;");
        Check.due("both always: from TURN 1 on", 1, x.where(0));
        Check.due("in each", 59, x.where(58));
        Check.due("none beyond", -1, x.where(59));
        x.play(9);
        Check.due("over", -1, x.where(0));
        x = on("player 1 1 0 0;player 1 1 0 1;player 1 1 0 1;row 0 a;row 1 b;row 2 b;");
        Check.due("any two", 2, x.where(0));
    }

    private static void chance(SnapHeaps x, int player, int watcher, int above, int below) {
        Check.due("above of " + player + " for " + watcher, above, x.chance(player, watcher, 0));
        Check.due("below of " + player + " for " + watcher, below, x.chance(player, watcher, 1));
    }

    private static void chance() {
        SnapHeaps x = on("player 1 0 9 0;player 1 0 9 1;player 1 0 9 2;row 0 abcd;row 1 cacacb;row 2 bd;");
        chance(x, 0, 1, 0, 1);
        x.play(1);
        chance(x, 1, 0, 1, 3);
        chance(x, 2, 0, 0, 1);
        chance(x, 0, 0, 0, 1);
        x.play(2);
        chance(x, 0, 2, 2, 3);
        chance(x, 1, 2, 3, 5);
        chance(x, 2, 2, 0, 1);
        x.play(2);
        chance(x, 2, 0, 0, 1);
        chance(x, 0, 0, 0, 1);
        x = on("player 1 0 9 0;player 1 0 9 1;player 1 0 9 2;row 0 ab;row 1 b;");
        chance(x, 2, 0, 0, 1);
        x.play(2);
        chance(x, 0, 0, 1, 1);
        chance(x, 1, 0, 0, 1);
        x.play(1);
        chance(x, 0, 1, 1, 2);
        chance(x, 1, 1, 1, 1);
    }

    private static void chanceRemembered() {
        SnapHeaps x = on("player 1 0 9 0;player 1 1 9 1;row 0 ab;row 1 aab;open 1 1;");
        Texts.plan(x, 0, "row<0");
        Texts.plan(x, 1, "row<0");
        chance(x, 1, 1, 0, 1);
        x.play(1);
        chance(x, 1, 0, 2, 3);
        chance(x, 1, 1, 1, 1);
        x.play(1);
        chance(x, 1, 1, 1, 2);
        x = on("player 1 0 9 0;player 1 60 9 1;row 0 ab;row 1 baa;open 1 1;");
        x.play(1);
        chance(x, 1, 0, 2, 3);
        chance(x, 1, 1, 0, 1);
    }

    private static void waits() {
        SnapHeaps x = new SnapHeaps();
        Check.due("half a chance, 10 against 4: 6 of 10 is 9.6 of 16", 10, x.waits(1, 2, 10, 4));
        Check.due("sure", 16, x.waits(5, 5, 10, 99));
        Check.due("no chance", 0, x.waits(0, 9, 99, 1));
        Check.due("nothing to lose", 16, x.waits(1, 9, 3, 0));
        Check.due("nothing to gain", 0, x.waits(1, 1, 0, 0));
        Check.due("no worth", 0, x.waits(1, 2, 7, 7));
        Check.due("exactly 8 of 16", 8, x.waits(1, 2, 10, 5));
        Check.due("a little more", 9, x.waits(50, 99, 10, 5));
        Check.due("most", 16, x.waits(99, 99, 99, 99));
    }

    private static void ahead() {
        SnapHeaps x = new SnapHeaps();
        Check.due("up times g, less what is left times c", 6, x.ahead(1, 2, 10, 4));
        Check.due("less than nothing", -6 * 7 + 3 * 5, x.ahead(3, 9, 5, 7));
        Check.due("most", 99 * 99, x.ahead(99, 99, 99, 99));
        Check.due("least", -99 * 99, x.ahead(0, 99, 99, 99));
        Check.due("none", 0, x.ahead(0, 1, 0, 0));
    }

    private static void refusals() {
        SnapHeaps x = on("player 1 1 9 0;player 1 1 9 1;row 0 ab;row 1 aab;");
        Check.noNumber(x, "ends(4)", () -> x.ends(4));
        Check.noNumber(x, "ends(-1)", () -> x.ends(-1));
        Check.noNumber(x, "chance(0, 1, 2)", () -> x.chance(0, 1, 2));
        Check.noNumber(x, "chance(0, 1, -1)", () -> x.chance(0, 1, -1));
        Check.noPlayer(x, "chance(2, 1, 2)", () -> x.chance(2, 1, 2));
        Check.noPlayer(x, "chance(0, 2, 0)", () -> x.chance(0, 2, 0));
        Check.noPlayer(x, "chance(0, -1, 0)", () -> x.chance(0, -1, 0));
        int[][] wrong = {{-1, 1, 1, 1}, {2, 1, 1, 1}, {0, 0, 1, 1}, {0, 100, 1, 1}, {1, 1, -1, 1}, {1, 1, 100, 1},
            {1, 1, 1, -1}, {1, 1, 1, 100}, {0, -1, 1, 1}};
        for (int[] w : wrong) {
            Check.noNumber(x, "waits", () -> x.waits(w[0], w[1], w[2], w[3]));
            Check.noNumber(x, "ahead", () -> x.ahead(w[0], w[1], w[2], w[3]));
        }
    }
}
