/** Promises 16 to 19 and 21 to 23: LAWS, being DRAWN, TURNS, the latest one, calls, cards won. */
public final class TurnTest {
    public static void main(String[] args) {
        seen();
        late();
        guessedAndRemembered();
        callersAhead();
        falseCalls();
        falseWithThree();
        falseOfTheLastCard();
        tied();
        tiedThree();
        poolLaws();
        turningOver();
        outAndOver();
        firstNeedNotHaveATop();
        knowing();
        drawn();
        lawsFromNowOn();
        howManyTurns();
        refusals();
        Check.end("TurnTest");
    }

    private static SnapHeaps on(String table) {
        SnapHeaps x = new SnapHeaps();
        int players = Texts.table(x, table);
        Check.holds("a table: " + table, players >= 2);
        return x;
    }

    /** Nobody of these calls unless a plan or guess that is told later holds. */
    private static void quiet(SnapHeaps x) {
        for (int p = 0; p < x.told(0); p++) {
            Texts.plan(x, p, "row<0");
        }
    }

    private static void latest(SnapHeaps x, String what, int... want) {
        Check.row(what + ", latest", Ask.latest(x), want);
    }

    private static void calls(SnapHeaps x, String what, int player, int... want) {
        Check.row(what + ", calls of " + player, Ask.calls(x, player), want);
    }

    private static void seen() {
        SnapHeaps x = on("player 1 1 1 0;player 1 1 1 1;row 0 ab;row 1 ac;");
        latest(x, "ahead of any", -1, -1, -1, -1, -1);
        Check.due("one turn", 1, x.play(1));
        latest(x, "nobody called", -1, -1, 0, 0, 0);
        Check.due("the turn", 1, x.told(2));
        Check.due("whose it is", 1, x.told(3));
        Check.text("board", "b/a ac/ ", Ask.board(x));
        x.play(1);
        latest(x, "1 sees it first, his eyes are there", 1, 1, 1, 2, 2);
        Check.text("both heaps, the least player's first", "b/ cAA/ ", Ask.board(x));
        calls(x, "seen", 1, 1, 0, 0, 0, 0, 0);
        calls(x, "not first", 0, 0, 0, 0, 0, 0, 0);
        Check.due("won by 1", 2, x.won(1));
        Check.due("won by 0", 0, x.won(0));
        x = on("player 1 1 1 1;player 1 1 2 1;row 0 ab;row 1 ac;");
        x.play(2);
        latest(x, "both have their eyes there: 0 is quicker", 0, 0, 1, 2, 2);
        Check.text("behind his row", "bAA/ c/ ", Ask.board(x));
        x = on("player 1 1 2 2;player 1 1 2 0;row 0 ab;row 1 ac;");
        x.play(2);
        latest(x, "nobody's eyes are there: 3 for both, the least number", 0, 0, 3, 2, 2);
    }

    private static void late() {
        SnapHeaps x = on("player 1 1 1 0;player 1 1 1 1;row 0 ab;row 1 ac;pace 1 1;pace 0 9;");
        x.play(2);
        latest(x, "both are late", -1, -1, 0, 0, 0);
        calls(x, "late", 0, 0, 0, 0, 0, 0, 1);
        calls(x, "late", 1, 0, 0, 0, 0, 0, 1);
        Check.text("heaps stay", "b/a c/a ", Ask.board(x));
        x = on("player 1 1 1 0;player 1 1 1 1;row 0 ab;row 1 ac;pace 1 2;pace 0 1;");
        x.play(2);
        latest(x, "a delay of the pace is late, one less is not", 1, 1, 1, 1, 2);
        calls(x, "late", 0, 0, 0, 0, 0, 0, 1);
        x = on("player 1 1 5 1;player 1 1 4 1;row 0 ab;row 1 ac;");
        x.play(2);
        latest(x, "the pace is 5 without a clause", 1, 1, 4, 1, 2);
        calls(x, "late", 0, 0, 0, 0, 0, 0, 1);
    }

    private static void guessedAndRemembered() {
        String rows = "row 0 ab;row 1 ac;";
        SnapHeaps x = on("player 1 1 1 0;player 1 1 1 1;" + rows);
        Texts.guess(x, 0, "turn 60 1");
        x.play(2);
        latest(x, "ahead of a card that had not lain open", 0, 0, -1, 2, 2);
        calls(x, "guessed", 0, 0, 1, 0, 0, 0, 0);
        calls(x, "was second", 1, 0, 0, 0, 0, 0, 0);
        Check.text("board", "bAA/ c/ ", Ask.board(x));
        x = on("player 1 1 1 0;player 1 1 1 1;" + rows + "open 1 1;");
        Texts.guess(x, 0, "turn 60 1");
        x.play(2);
        calls(x, "remembered", 0, 0, 0, 1, 0, 0, 0);
        x = on("player 1 0 1 0;player 1 1 1 1;" + rows + "open 1 1;");
        Texts.guess(x, 0, "turn 60 1");
        x.play(2);
        calls(x, "without a memory it is guessed", 0, 0, 1, 0, 0, 0, 0);
        x = on("player 1 0 1 0;player 1 60 0 1;" + rows + "open 0 2;open 1 2;");
        x.play(2);
        calls(x, "not ahead it is seen", 1, 1, 0, 0, 0, 0, 0);
    }

    private static void callersAhead() {
        SnapHeaps x = on("player 1 1 0 0;player 1 1 0 0;row 0 ab;row 1 ac;pace 0 1;pace 1 1;");
        Texts.guess(x, 0, "turn 60 1");
        Texts.guess(x, 1, "turn 60 1");
        x.play(2);
        latest(x, "both ahead, never late", 0, 0, -1, 2, 2);
        x = on("player 1 1 0 0;player 1 1 0 0;row 0 ab;row 1 ac;");
        Texts.guess(x, 0, "top a and not alike");
        x.play(2);
        latest(x, "the guess is asked ahead of the card", 0, 0, -1, 2, 2);
        x = on("player 1 1 0 0;player 1 1 0 1;row 0 ab;row 1 ac;");
        Texts.guess(x, 0, "alike");
        Texts.plan(x, 0, "row<0");
        x.play(2);
        latest(x, "nothing is alike yet", 1, 1, 0, 1, 2);
    }

    private static void falseCalls() {
        String table = "player 1 1 1 0;player 1 1 1 1;row 0 abc;row 1 def;";
        SnapHeaps x = on(table);
        quiet(x);
        Texts.guess(x, 1, "turn 60 2");
        x.play(3);
        latest(x, "false", -1, 1, -1, 1, 0);
        calls(x, "false", 1, 0, 0, 0, 1, 0, 0);
        Check.text("law 0: his heap behind the other's row", "cD/ab ef/ ", Ask.board(x));
        x = on(table + "false 1;");
        quiet(x);
        Texts.guess(x, 1, "turn 60 2");
        x.play(3);
        Check.text("law 1: his first card to the pool", "c/ab f/d e", Ask.board(x));
        x = on(table + "false 2;");
        quiet(x);
        Texts.guess(x, 1, "turn 60 2");
        x.play(3);
        Check.text("law 2: nothing", "c/ab ef/d ", Ask.board(x));
        calls(x, "false all the same", 1, 0, 0, 0, 1, 0, 0);
        x = on(table);
        quiet(x);
        Texts.plan(x, 0, "turn 60 2");
        x.play(3);
        latest(x, "not ahead, false", -1, 0, 1, 1, 0);
        Check.text("law 0: his heap with the new card", "c/ efAB/d ", Ask.board(x));
    }

    private static void falseWithThree() {
        String table = "player 1 1 1 0;player 1 1 1 1;player 1 1 1 2;row 0 abc;row 1 def;row 2 ghi;";
        SnapHeaps x = on(table);
        quiet(x);
        Texts.guess(x, 1, "turn 60 2");
        x.play(3);
        Check.text("behind the row of the next one", "bc/a ef/ hiD/g ", Ask.board(x));
        x = on(table);
        quiet(x);
        Texts.plan(x, 2, "turn 60 2");
        x.play(3);
        Check.text("round", "bcG/a ef/d hi/ ", Ask.board(x));
        x = on("player 1 1 1 0;player 1 1 1 1;player 1 1 1 2;row 0 abc;row 1 def;");
        quiet(x);
        Texts.guess(x, 1, "turn 60 2");
        x.play(3);
        Check.text("the one who is OUT is left out", "cD/ab ef/ / ", Ask.board(x));
    }

    private static void falseOfTheLastCard() {
        SnapHeaps x = on("player 1 1 1 0;player 1 1 1 1;row 0 a;row 1 bc;false 1;");
        quiet(x);
        Texts.plan(x, 0, "turn 60 0");
        x.play(1);
        Check.text("he has no row: his top to the pool", "/ bc/ a", Ask.board(x));
        Check.due("he is OUT", 1, x.player(0, 7));
        Check.due("the game is over", -1, x.told(3));
        Check.due("cards in all", 3, x.told(1));
        Check.due("cards of the pool", 1, x.told(4));
        x = on("player 1 1 1 0;player 1 1 1 1;row 0 ab;row 1 bc;false 1;open 0 2;");
        quiet(x);
        Texts.plan(x, 0, "turn 60 0");
        x.play(1);
        Check.text("of a row its first", "/a bc/ b", Ask.board(x));
    }

    private static void tied() {
        String table = "player 1 1 1 1;player 1 1 1 1;row 0 ab;row 1 ac;";
        SnapHeaps x = on(table);
        x.play(2);
        latest(x, "law 0: the least number", 0, 0, 1, 2, 2);
        calls(x, "seen, not tied", 0, 1, 0, 0, 0, 0, 0);
        x = on(table + "tie 1;");
        x.play(2);
        latest(x, "law 1: none is first", -1, -1, 0, 2, 0);
        calls(x, "tied", 0, 0, 0, 0, 0, 1, 0);
        calls(x, "tied", 1, 0, 0, 0, 0, 1, 0);
        Check.text("nothing moves", "b/a c/a ", Ask.board(x));
        x = on(table + "tie 2;");
        x.play(2);
        latest(x, "law 2: none is first", -1, -1, 0, 2, 0);
        calls(x, "tied", 1, 0, 0, 0, 0, 1, 0);
        Check.text("both heaps to the pool", "b/ c/ aa", Ask.board(x));
        x = on(table + "tie 2;");
        Texts.guess(x, 0, "turn 60 0");
        Texts.guess(x, 1, "turn 60 0");
        x.play(1);
        latest(x, "tied ahead, nothing alike", -1, -1, 0, 2, 0);
        calls(x, "tied, not false", 0, 0, 0, 0, 0, 1, 0);
        Check.text("heaps stay", "b/a ac/ ", Ask.board(x));
    }

    private static void tiedThree() {
        String table = "player 1 1 1 2;player 1 1 1 2;player 1 1 3 1;row 0 ab;row 1 ac;row 2 bd;tie 1;";
        SnapHeaps x = on(table);
        x.play(2);
        latest(x, "0, 1 have 2, 2 has 3: no first at all", -1, -1, 0, 3, 0);
        calls(x, "tied", 0, 0, 0, 0, 0, 1, 0);
        calls(x, "the third is none of these", 2, 0, 0, 0, 0, 0, 0);
        x = on("player 1 1 1 2;player 1 1 1 2;player 1 1 0 1;row 0 ab;row 1 ac;row 2 bd;tie 1;");
        x.play(2);
        latest(x, "2 is first, the others are not the least", 2, 2, 0, 3, 2);
        calls(x, "not tied", 0, 0, 0, 0, 0, 0, 0);
        x = on("player 1 1 1 2;player 1 1 1 2;player 1 1 1 2;row 0 ba;row 1 ca;row 2 ad;tie 2;");
        x.play(5);
        Check.text("the least player's heap first, each as it was laid", "/ /ca d/ baa", Ask.board(x));
    }

    private static void poolLaws() {
        String table = "player 1 1 0 2;player 1 1 9 2;row 0 abc;row 1 bbd;false 1;pace 0 9;pace 1 9;";
        for (int law = 0; law <= 2; law++) {
            SnapHeaps x = on(table + "pool " + law + ";");
            Texts.guess(x, 1, "turn 60 0");
            x.play(3);
            String won = law == 0 ? "cABB/ d/ b" : "cABBB/ d/ ";
            Check.text("pool law " + law + ", last of the kind", won.replace("BBB", "BBb"), Ask.board(x));
            Check.due("cards won", law == 0 ? 3 : 4, x.latest(4));
            Check.due("in all", law == 0 ? 3 : 4, x.won(0));
            x = on(table.replace("bbd", "fbd") + "pool " + law + ";");
            Texts.guess(x, 1, "turn 60 0");
            x.play(3);
            won = law == 2 ? "cABBf/ d/ " : "cABB/ d/ f";
            Check.text("pool law " + law + ", last of another kind", won, Ask.board(x));
        }
    }

    private static void turningOver() {
        SnapHeaps x = on("player 1 1 1 0;player 1 1 1 1;row 0 ab;row 1 cdef;");
        quiet(x);
        x.play(4);
        Check.text("no row", "/ab ef/cd ", Ask.board(x));
        x.play(1);
        Check.text("what was laid first comes first", "B/a ef/cd ", Ask.board(x));
        x.play(1);
        x.play(1);
        Check.text("again", "/ab f/cde ", Ask.board(x));
    }

    private static void outAndOver() {
        SnapHeaps x = on("player 1 1 0 0;player 1 1 0 1;player 1 1 0 2;row 0 ac;row 2 ad;");
        Check.due("1 is OUT", 1, x.player(1, 7));
        Check.due("one turn", 1, x.play(1));
        Check.due("1 is left out", 2, x.told(3));
        x.play(1);
        latest(x, "2 wins", 2, 2, 0, 2, 2);
        Check.due("0 is next", 0, x.told(3));
        x = on("player 1 1 0 0;player 1 1 0 1;row 0 a;row 1 a;");
        Check.due("two turns till it is over", 2, x.play(999));
        Check.due("nobody's turn", -1, x.told(3));
        Check.due("the turn", 2, x.told(2));
        Check.due("no more", 0, x.play(5));
        latest(x, "stays", 1, 1, 0, 2, 2);
        Check.due("0 is OUT", 1, x.player(0, 7));
        Check.due("1 is not", 0, x.player(1, 7));
        x = on("player 1 1 0 0;player 1 1 0 1;row 1 a;");
        Check.due("over from the start", -1, x.told(3));
        Check.due("no turn", 0, x.play(1));
        latest(x, "none", -1, -1, -1, -1, -1);
        x = on("player 1 1 0 0;player 1 1 0 1;player 1 1 0 2;row 1 ab;row 2 cd;");
        Check.due("0 is OUT from the start", 1, x.told(3));
        quiet(x);
        Texts.plan(x, 0, "row<9");
        Texts.guess(x, 0, "row<9");
        x.play(4);
        latest(x, "who is OUT does not call", -1, -1, 0, 0, 0);
        calls(x, "OUT", 0, 0, 0, 0, 0, 0, 0);
    }

    private static void firstNeedNotHaveATop() {
        SnapHeaps x = on("player 1 1 9 0;player 1 1 9 1;player 1 1 0 2;row 0 xa;row 1 a;row 2 bc;".replace("x", ""));
        x.play(2);
        latest(x, "2 takes the heaps of 0 and 1", 2, 2, 1, 1, 2);
        Check.text("board", "/ / bcAA/ ", Ask.board(x));
        calls(x, "late", 0, 0, 0, 0, 0, 0, 1);
    }

    private static void knowing() {
        SnapHeaps x = on("player 1 1 9 0;player 1 1 9 1;row 0 ab;row 1 ac;open 1 1;");
        Texts.guess(x, 0, "know");
        x.play(1);
        latest(x, "ahead of his own card he knows nothing", -1, -1, 0, 0, 0);
        x.play(1);
        latest(x, "the card of this turn", 0, 0, -1, 1, 2);
        calls(x, "remembered", 0, 0, 0, 1, 0, 0, 0);
        x = on("player 1 1 0 0;player 1 1 9 1;row 0 ab;row 1 ac;open 1 1;");
        Texts.plan(x, 0, "know");
        x.play(1);
        latest(x, "a plan looks at the card of the turn behind: false", -1, 0, 0, 1, 0);
    }

    private static void drawn() {
        SnapHeaps x = on("player 1 1 0 1;player 1 1 0 0;row 0 abc;row 1 abd;pace 1 9;pace 0 9;");
        Check.due("not drawn", 0, x.still());
        int seed = 987654321;
        x.draws(seed);
        int s = seed * 1103515245 + 12345;
        int delay0 = s >>> 16 & 3;
        s = s * 1103515245 + 12345;
        int delay1 = 1 + (s >>> 16 & 3);
        x.play(2);
        int first = delay0 <= delay1 ? 0 : 1;
        latest(x, "drawn", first, first, Math.min(delay0, delay1), 2, 2);
        x = on("player 1 1 0 1;player 1 1 0 0;row 0 abc;row 1 abd;pace 1 9;pace 0 9;");
        int[] firsts = new int[2];
        int latestDelays = 0;
        for (int i = 0; i < 40; i++) {
            x.draws(i * 77777);
            x.play(2);
            firsts[x.latest(1)]++;
            latestDelays |= 1 << x.latest(2);
            x.undo(2);
        }
        Check.holds("either may be first", firsts[0] > 0 && firsts[1] > 0);
        Check.due("delays 0 to 3", 15, latestDelays);
        Check.due("it was drawn", 1, x.still());
        Check.due("no more", 0, x.still());
        x.play(2);
        latest(x, "still", 0, 0, 0, 2, 2);
        lateOnesAreDrawn();
    }

    private static void lateOnesAreDrawn() {
        int seed = 4;
        int s = seed * 1103515245 + 12345;
        s = s * 1103515245 + 12345;
        int delay1 = s >>> 16 & 3;
        SnapHeaps x = on("player 1 1 9 1;player 1 1 0 1;row 0 abc;row 1 abd;");
        x.draws(seed);
        x.play(2);
        latest(x, "0 is late, the second draw is for 1", 1, 1, delay1, 1, 2);
        x = on("player 1 1 0 1;player 1 1 0 1;row 0 abc;row 1 abd;");
        Texts.guess(x, 0, "turn 60 1");
        Texts.plan(x, 1, "turn 60 1");
        x.law(1, 0);
        x.draws(seed);
        x.play(2);
        latest(x, "ahead nothing is drawn", 0, 0, -1, 2, 2);
    }

    private static void lawsFromNowOn() {
        SnapHeaps x = on("player 1 1 1 1;player 1 1 1 1;row 0 ab;row 1 ac;tie 1;false 2;");
        Check.due("tie was", 1, x.law(1, 0));
        Check.due("tie is", 0, x.told(6));
        Check.due("false was", 2, x.law(0, 1));
        Check.due("false is", 1, x.told(5));
        Check.due("pool was", 0, x.law(2, 2));
        Check.due("pool is", 2, x.told(7));
        Check.due("pool was", 2, x.law(2, 2));
        x.play(2);
        latest(x, "by the new law", 0, 0, 1, 2, 2);
    }

    private static void howManyTurns() {
        SnapHeaps x = on("player 1 1 1 1;player 1 1 1 1;row 0 ab;row 1 cd;");
        Check.due("999", 999, x.play(999));
        Check.due("turn", 999, x.told(2));
        Check.due("1", 1, x.play(1));
        Check.due("turn", 1000, x.told(2));
        Check.due("nobody won", 0, x.won(0));
    }

    private static void refusals() {
        SnapHeaps x = on("player 1 1 1 1;player 1 1 1 1;row 0 ab;row 1 cd;");
        Check.noNumber(x, "play(0)", () -> x.play(0));
        Check.noNumber(x, "play(1000)", () -> x.play(1000));
        Check.noNumber(x, "play(-1)", () -> x.play(-1));
        Check.noNumber(x, "law(3, 0)", () -> x.law(3, 0));
        Check.noNumber(x, "law(-1, 0)", () -> x.law(-1, 0));
        Check.noNumber(x, "law(0, 3)", () -> x.law(0, 3));
        Check.noNumber(x, "law(0, -1)", () -> x.law(0, -1));
        Check.noNumber(x, "latest(5)", () -> x.latest(5));
        Check.noNumber(x, "latest(-1)", () -> x.latest(-1));
        Check.noNumber(x, "calls(0, 6)", () -> x.calls(0, 6));
        Check.noNumber(x, "calls(0, -1)", () -> x.calls(0, -1));
        Check.noPlayer(x, "calls(2, 6)", () -> x.calls(2, 6));
        Check.noPlayer(x, "calls(-1, 0)", () -> x.calls(-1, 0));
        Check.noPlayer(x, "won(2)", () -> x.won(2));
        Check.noPlayer(x, "won(-1)", () -> x.won(-1));
        Check.due("nothing was done", 0, x.told(2));
    }
}
