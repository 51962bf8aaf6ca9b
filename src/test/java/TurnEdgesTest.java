/** The edges of a GAME and its TURNS (promises 1, 8 to 19, 21 to 23): nothing there yet, all full, the last that is in time. */
public final class TurnEdgesTest {
    private static final String QUIET = "row<0";

    public static void main(String[] args) {
        noPlayers();
        out();
        outOnesAreLeftOut();
        placesOfCards();
        turnedOverAheadOfGuesses();
        guessesAheadOfTheCard();
        heapOf59();
        ofSeveralTheLeastTwo();
        paces();
        eyes();
        seedsWrap();
        stillAndDraws();
        tieOfTwoAndThree();
        tieAndLaterOnes();
        poolOf60();
        winOf60();
        emptyPool();
        lastOfThePool();
        falseByNumbers();
        falseWithoutAHeap();
        falseOfOneCard();
        poolKeepsWhatHasLain();
        rememberedOrGuessed();
        kindsOfCalls();
        playsToTheEnd();
        latestOfEach();
        lawsOfEach();
        knowOfEach();
        knowIfItIsCovered();
        nearOfEach();
        mineOfEach();
        alikeOfEachPair();
        tiedOfEachPair();
        guessesBehindAWin();
        knowBehindTurningOver();
        sizesOfNoneAndAll();
        turnsThatLeaveOnesAndLast();
        wouldIfItIsOver();
        Check.end("TurnEdgesTest");
    }

    private static SnapHeaps on(String table) {
        SnapHeaps x = new SnapHeaps();
        Check.holds("a table: " + table, Texts.table(x, table) >= 2);
        return x;
    }

    /** Nobody of these calls, unless a PLAN or GUESS is told that holds. */
    private static SnapHeaps quiet(String table) {
        SnapHeaps x = on(table);
        for (int p = 0; p < x.told(0); p++) {
            Texts.plan(x, p, QUIET);
        }
        return x;
    }

    private static void latest(SnapHeaps x, String what, int... want) {
        Check.row(what + ", latest", Ask.latest(x), want);
    }

    private static void calls(SnapHeaps x, String what, int player, int... want) {
        Check.row(what + ", calls of " + player, Ask.calls(x, player), want);
    }

    /** Promise 1: "No PLAYERS". */
    private static void noPlayers() {
        SnapHeaps x = new SnapHeaps();
        Check.row("told", Ask.tolds(x), 0, 0, 0, -1, 0, 0, 0, 0, 0);
        Check.row("latest", Ask.latest(x), -1, -1, -1, -1, -1);
        Check.row("over from the start", Ask.ends(x), -1, 0, 1, 0);
        Check.row("lot", Ask.lot(x, 5, 20), 0, 0, 0, 0, 0, 0);
        Check.noPlayer(x, "plan(0, 0)", () -> x.plan(0, 0));
        Check.noPlayer(x, "guess(0, 0)", () -> x.guess(0, 0));
        Check.noPlayer(x, "player(0, 0)", () -> x.player(0, 0));
        Check.noPlayer(x, "row(0, 0)", () -> x.row(0, 0));
        Check.noPlayer(x, "heap(0, 0)", () -> x.heap(0, 0));
        Check.noPlayer(x, "lain(0, 0)", () -> x.lain(0, 0));
        Check.noPlayer(x, "would(0, 0)", () -> x.would(0, 0));
        Check.noPlayer(x, "calls(0, 0)", () -> x.calls(0, 0));
        Check.noPlayer(x, "won(0)", () -> x.won(0));
        Check.noPlayer(x, "chance(0, 0, 0)", () -> x.chance(0, 0, 0));
        Check.noPlayer(x, "remember(0, 0, 0)", () -> x.remember(0, 0, 0));
        Check.noPlayer(x, "odds(0, 0, 0)", () -> x.odds(0, 0, 0));
        Check.due("no turns", 0, x.play(999));
        Check.due("none to undo", 0, x.undo(999));
        Check.due("law 0 for each", 0, x.law(2, 2));
        Check.due("it is another one", 2, x.told(7));
        x.draws(4);
        x.shuffle(4);
        Check.due("drawn", 1, x.still());
        Check.due("an image of it", 1, x.image());
        Check.due("the pool", -1, x.pool(0));
        Check.due("alike", -1, x.alike());
        Check.due("where", -1, x.where(0));
        Check.due("laws, left", -1, x.laws(8, 0));
        Check.due("laws, length", 0, x.laws(8, 1));
        Check.due("never against never", 0, x.moments(0, 0, 99));
        Check.due("restored", 0, x.restore());
    }

    /** "A PLAYER without ROW and heap is OUT." */
    private static void out() {
        SnapHeaps x = quiet("player 1 1 0 0;player 1 1 0 1;player 1 1 0 2;row 0 a;row 2 bc;");
        Check.due("a row, no heap", 0, x.player(0, 7));
        Check.due("no row, no heap", 1, x.player(1, 7));
        x.play(1);
        Check.due("no row", 0, x.player(0, 5));
        Check.due("a heap of one", 1, x.player(0, 6));
        Check.due("a heap, no row", 0, x.player(0, 7));
        x.play(1);
        Check.due("both", 0, x.player(2, 7));
    }

    /** "0 first, then in order, round, OUT ones left out". */
    private static void outOnesAreLeftOut() {
        String three = "player 1 1 0 0;player 1 1 0 1;player 1 1 0 2;";
        String[] rows = {"row 0 ab;row 1 cd;row 2 ef;", "row 1 cd;row 2 ef;", "row 0 ab;row 2 ef;", "row 0 ab;row 1 cd;"};
        int[][] order = {{0, 1, 2, 0, 1, 2, 0}, {1, 2, 1, 2, 1, 2, 1}, {0, 2, 0, 2, 0, 2, 0}, {0, 1, 0, 1, 0, 1, 0}};
        for (int i = 0; i < rows.length; i++) {
            SnapHeaps x = quiet(three + rows[i]);
            for (int t = 0; t < order[i].length; t++) {
                Check.due("whose it is, " + rows[i] + " in " + t, order[i][t], x.told(3));
                Check.due("one turn", 1, x.play(1));
            }
        }
        String[] alone = {"row 0 ab;", "row 1 ab;", "row 2 ab;", ""};
        for (String row : alone) {
            SnapHeaps x = on(three + row);
            Check.due("over: " + row, -1, x.told(3));
            Check.due("no turn", 0, x.play(1));
        }
        // 1's only card goes to 2 by his false call in TURN 1: TURN 2 is 2's, TURN 3 is 0's
        SnapHeaps x = quiet(three + "row 0 ab;row 1 c;row 2 ef;");
        Texts.plan(x, 1, "turn 60 1");
        x.play(2);
        Check.due("he is OUT", 1, x.player(1, 7));
        Check.due("2", 2, x.told(3));
        x.play(1);
        Check.due("0", 0, x.told(3));
        x.play(1);
        Check.due("2 again", 2, x.told(3));
        // 2's only card goes to 0 by his false call ahead in TURN 1: TURN 2 is 0's, TURN 3 is 1's
        x = quiet(three + "row 0 ab;row 1 cd;row 2 e;false 1;");
        Texts.guess(x, 2, "turn 60 1");
        x.play(2);
        Check.due("2 is OUT ahead of his turn", 1, x.player(2, 7));
        Check.due("round to 0", 0, x.told(3));
        x.play(1);
        Check.due("1", 1, x.told(3));
    }

    /** Promises 10 to 13: "NONE: none such". */
    private static void placesOfCards() {
        SnapHeaps x = quiet("player 1 1 0 0;player 1 1 0 1;row 0 abc;row 1 ef;false 1;");
        Check.due("no heap yet", -1, x.heap(0, 0));
        Check.due("no pool yet", -1, x.pool(0));
        Check.due("none is open", 0, x.lain(0, 0));
        Texts.plan(x, 0, "turn 60 0");
        x.play(1);
        Check.text("b is in the pool", "c/a ef/ b", Ask.board(x));
        int[] places = {Integer.MIN_VALUE, -1, 1, 2, 60, Integer.MAX_VALUE};
        for (int i : places) {
            Check.due("row " + i, -1, x.row(0, i));
            Check.due("lain " + i, -1, x.lain(0, i));
            Check.due("heap " + i, -1, x.heap(0, i));
            Check.due("pool " + i, -1, x.pool(i));
        }
        Check.due("row 0", 2, x.row(0, 0));
        Check.due("heap 0", 0, x.heap(0, 0));
        Check.due("pool 0", 1, x.pool(0));
        Check.due("lain 0", 0, x.lain(0, 0));
        x.play(2);
        Check.text("no row", "/ac f/e b", Ask.board(x));
        Check.due("no card of his row", -1, x.row(0, 0));
        Check.due("nor lain", -1, x.lain(0, 0));
    }

    /** (a) comes ahead of (b). */
    private static void turnedOverAheadOfGuesses() {
        SnapHeaps x = quiet("player 1 1 0 0;player 1 1 0 1;row 0 a;row 1 b;false 2;");
        x.play(2);
        Texts.guess(x, 0, "row>0 and heap<1");
        Check.holds("not between turns", !x.would(0, 1));
        x.play(1);
        latest(x, "his heap was turned over", -1, 0, -1, 1, 0);
        x.play(1);
        latest(x, "not in the other's turn", -1, -1, 0, 0, 0);
        Texts.guess(x, 0, "near a");
        Check.holds("no row, no first card", !x.would(0, 1));
        x.play(1);
        latest(x, "it is the first of his row then", -1, 0, -1, 1, 0);
        Texts.guess(x, 0, QUIET);
        Texts.guess(x, 1, "heap<1");
        x.play(1);
        latest(x, "a heap of one is turned over and laid each time", -1, 1, -1, 1, 0);
        Check.text("board", "/a /b ", Ask.board(x));
    }

    /** (b) comes ahead of (c), (d) behind it. */
    private static void guessesAheadOfTheCard() {
        SnapHeaps x = quiet("player 1 1 0 0;player 1 1 0 1;row 0 abc;row 1 de;false 2;");
        Texts.guess(x, 0, "heap<1");
        Texts.guess(x, 1, "heap>0");
        x.play(1);
        latest(x, "no heap ahead of his first card", -1, 0, -1, 1, 0);
        x.play(1);
        latest(x, "nobody: 0 has one, 1 has none yet", -1, -1, 0, 0, 0);
        Texts.guess(x, 1, QUIET);
        Texts.plan(x, 0, "heap>1 and top b and row<2");
        Check.holds("not yet", !x.would(0, 0));
        x.play(1);
        latest(x, "behind the card it holds", -1, 0, 0, 1, 0);
        Texts.plan(x, 0, "turn 60 3");
        Texts.guess(x, 0, "turn 60 3");
        x.play(1);
        latest(x, "who called ahead calls no more", -1, 0, -1, 1, 0);
        calls(x, "one each", 0, 0, 0, 0, 3, 0, 0);
    }

    private static void heapOf59() {
        SnapHeaps x = quiet("player 1 1 0 0;player 1 1 0 1;row 0 " + "abcdefghijklmno".repeat(4).substring(1) + ";row 1 a;");
        Check.due("117 turns", 117, x.play(117));
        Check.due("59 of his heap", 59, x.player(0, 6));
        Check.due("no row", 0, x.player(0, 5));
        Check.due("the first", 1, x.heap(0, 0));
        Check.due("the last", 14, x.heap(0, 58));
        Check.due("none such", -1, x.heap(0, 59));
        x.play(2);
        Check.due("turned over, and one laid", 58, x.player(0, 5));
        Check.due("what was laid first comes first", 1, x.heap(0, 0));
        Check.due("then the second", 2, x.row(0, 0));
        Check.due("the last", 14, x.row(0, 57));
        Check.due("all have lain", 1, x.lain(0, 57));
    }

    /** "of several the least two, by numbers". */
    private static void ofSeveralTheLeastTwo() {
        String three = "player 1 1 0 0;player 1 1 0 1;player 1 1 9 2;";
        SnapHeaps x = quiet(three + "row 0 ab;row 1 ac;row 2 ad;");
        x.play(3);
        Check.due("of three tops the first two", 1, x.alike());
        x = quiet(three + "row 0 ab;row 1 bc;row 2 bad;");
        Texts.guess(x, 2, "turn 60 3");
        x.play(3);
        Check.due("1 and 2", 12, x.alike());
        x.play(1);
        latest(x, "b of 0 is alike to both: 0's and 1's heaps are won, not his own", 2, 2, -1, 1, 3);
        Check.text("the least player's first", "/ c/ adABB/b ", Ask.board(x));
        Check.due("0 is OUT", 1, x.player(0, 7));
    }

    /** "whose DELAY is the PACE of the PLAYER whose TURN it is, or more, is LATE". */
    private static void paces() {
        for (int pace = 1; pace <= 9; pace++) {
            for (int delay = 0; delay <= 9; delay++) {
                SnapHeaps x = quiet("player 1 1 " + delay + " 1;player 1 1 9 2;row 0 ab;row 1 ac;pace 1 " + pace
                    + ";pace 0 " + (10 - pace) + ";");
                Texts.plan(x, 0, "alike");
                x.play(2);
                if (delay < pace) {
                    latest(x, "delay " + delay + " of " + pace, 0, 0, delay, 1, 2);
                } else {
                    latest(x, "delay " + delay + " of " + pace + " is late", -1, -1, 0, 0, 0);
                }
                calls(x, "delay " + delay + " of " + pace, 0, delay < pace ? 1 : 0, 0, 0, 0, 0, delay < pace ? 0 : 1);
            }
        }
        SnapHeaps x = quiet("player 1 1 9 0;player 1 1 9 1;row 0 ab;row 1 ac;pace 0 1;pace 1 1;");
        Texts.guess(x, 0, "turn 60 1");
        x.play(2);
        latest(x, "ahead is never late", 0, 0, -1, 1, 2);
    }

    /** "1 more if EYES are not on the heap that was laid upon". */
    private static void eyes() {
        for (int eyes = 0; eyes <= 2; eyes++) {
            for (int turn = 0; turn <= 2; turn++) {
                SnapHeaps x = quiet("player 1 1 2 " + eyes + ";player 1 1 9 1;player 1 1 9 1;row 0 ab;row 1 cd;row 2 ef;false 2;");
                Texts.plan(x, 0, "turn 60 " + turn);
                x.play(turn + 1);
                latest(x, "eyes on " + eyes + " in turn " + turn, -1, 0, eyes == turn ? 2 : 3, 1, 0);
            }
        }
        SnapHeaps x = quiet("player 1 1 2 2;player 1 1 9 1;row 0 ab;row 1 cd;false 2;");
        Texts.plan(x, 0, "turn 1 0");
        x.play(1);
        Check.due("a heap that is none", 3, x.latest(2));
        x.play(1);
        Check.due("a heap that is none", 3, x.latest(2));
    }

    /** What the document says of the SEED, in numbers that do not wrap by themselves. */
    private static long next(long seed) {
        return (seed * 1103515245L + 12345L) % 4294967296L;
    }

    private static void seedsWrap() {
        int[] seeds = {0, 1, -1, Integer.MIN_VALUE, Integer.MAX_VALUE, 65535, 65536, -65536, 1103515245, -12345};
        for (int seed : seeds) {
            SnapHeaps x = quiet("player 1 1 3 0;player 1 1 9 2;row 0 ab;row 1 cd;false 2;pace 0 9;pace 1 9;");
            Texts.plan(x, 0, "turn 1 0");
            x.draws(seed);
            long now = seed & 0xffffffffL;
            for (int t = 0; t < 12; t++) {
                now = next(now);
                x.play(1);
                Check.due("delay in " + t + " by " + seed, 3 + t % 2 + now / 65536 % 4, x.latest(2));
            }
        }
        int[] order = new int[3];
        SnapHeaps x = quiet("player 1 1 0 0;player 1 1 0 0;player 1 1 0 0;row 0 ab;row 1 cd;row 2 ef;false 2;pace 0 9;");
        for (int p = 0; p < 3; p++) {
            Texts.plan(x, p, "turn 60 0");
        }
        x.draws(2024);
        long now = 2024;
        for (int p = 0; p < 3; p++) {
            now = next(now);
            order[p] = (int) (now / 65536 % 4);
        }
        int first = order[0] <= order[1] && order[0] <= order[2] ? 0 : order[1] <= order[2] ? 1 : 2;
        x.play(1);
        latest(x, "for each caller, in order", -1, first, order[first], 3, 0);
        x.undo(1);
        x.play(1);
        latest(x, "the same again", -1, first, order[first], 3, 0);
    }

    private static void stillAndDraws() {
        SnapHeaps x = quiet("player 1 1 3 0;player 1 1 9 2;row 0 ab;row 1 cd;false 2;pace 0 9;pace 1 9;");
        Check.due("not drawn at first", 0, x.still());
        x.draws(0);
        Check.due("drawn by 0 is drawn", 1, x.still());
        Check.due("no more", 0, x.still());
        x.draws(5);
        x.draws(6);
        Texts.plan(x, 0, "turn 1 0");
        x.play(1);
        Check.due("by the last one", 3 + next(6) / 65536 % 4, x.latest(2));
        x.draws(6);
        x.play(1);
        Check.due("from its begin", 4 + next(6) / 65536 % 4, x.latest(2));
        Check.due("drawn", 1, x.still());
        x.play(1);
        Check.due("nothing more", 3, x.latest(2));
    }

    /** (e) for two and three callers, by each LAW; ALIKE or not. */
    private static void tieOfTwoAndThree() {
        for (int callers = 2; callers <= 3; callers++) {
            for (int tie = 0; tie <= 2; tie++) {
                SnapHeaps x = quiet("player 1 1 1 2;player 1 1 1 2;player 1 1 1 0;row 0 ab;row 1 ac;row 2 de;tie " + tie + ";false 2;");
                for (int p = 0; p < callers; p++) {
                    Texts.plan(x, p, "turn 1 0");
                }
                x.play(1);
                String what = callers + " by tie " + tie;
                // in TURN 0 the EYES of 2 are on the heap of 0: he alone has DELAY 1
                latest(x, what + ", turn 0", -1, callers == 3 ? 2 : tie == 0 ? 0 : -1, callers == 3 ? 1 : tie == 0 ? 2 : 0, callers, 0);
                x.play(1);
                if (tie == 0) {
                    latest(x, what, 0, 0, 2, callers, 2);
                    Check.text(what, "bAA/ c/ de/ ", Ask.board(x));
                } else {
                    latest(x, what, -1, -1, 0, callers, 0);
                    Check.text(what, tie == 1 ? "b/a c/a de/ " : "b/ c/ de/ aa", Ask.board(x));
                    calls(x, what, 1, 0, 0, 0, 0, callers == 3 ? 1 : 2, 0);
                }
            }
        }
    }

    /** "all these are none, and there is no other one". */
    private static void tieAndLaterOnes() {
        for (int tie = 0; tie <= 2; tie++) {
            SnapHeaps x = quiet("player 1 1 0 2;player 1 1 0 2;player 1 1 1 2;row 0 ab;row 1 ac;row 2 de;tie " + tie + ";");
            for (int p = 0; p < 3; p++) {
                Texts.plan(x, p, "alike");
            }
            x.play(2);
            latest(x, "the third is no first, tie " + tie, tie == 0 ? 0 : -1, tie == 0 ? 0 : -1, tie == 0 ? 1 : 0, 3, tie == 0 ? 2 : 0);
            calls(x, "the third, tie " + tie, 2, 0, 0, 0, 0, 0, 0);
            x = quiet("player 1 1 0 2;player 1 1 0 2;player 1 1 0 2;row 0 ab;row 1 ac;row 2 de;tie " + tie + ";");
            Texts.guess(x, 0, "turn 60 1");
            Texts.guess(x, 2, "turn 60 1");
            Texts.plan(x, 1, "alike");
            x.play(2);
            latest(x, "two ahead of one, tie " + tie, tie == 0 ? 0 : -1, tie == 0 ? 0 : -1, tie == 0 ? -1 : 0, 3, tie == 0 ? 2 : 0);
            calls(x, "one of those ahead, tie " + tie, 2, 0, 0, 0, 0, tie == 0 ? 0 : 1, 0);
            calls(x, "who was not ahead, tie " + tie, 1, 0, 0, 0, 0, 0, 0);
        }
        // one alone has the least DELAY: no tie, whatever the others have
        SnapHeaps x = quiet("player 1 1 1 2;player 1 1 1 2;player 1 1 0 2;row 0 ab;row 1 ac;row 2 de;tie 2;");
        for (int p = 0; p < 3; p++) {
            Texts.plan(x, p, "alike");
        }
        x.play(2);
        latest(x, "2 alone is first", 2, 2, 1, 3, 2);
    }

    /** All cards of all in the POOL: nobody is left. */
    private static void poolOf60() {
        SnapHeaps x = on("player 1 1 0 2;player 1 1 0 2;row 0 " + "a".repeat(30) + ";row 1 " + "a".repeat(30) + ";tie 2;");
        Check.row("ends", Ask.ends(x), -1, 60, 1, 0);
        Check.due("sixty turns", 60, x.play(999));
        Check.due("cards of the pool", 60, x.told(4));
        Check.due("cards in all", 60, x.told(1));
        Check.due("the last", 0, x.pool(59));
        Check.due("none such", -1, x.pool(60));
        Check.due("nobody's turn", -1, x.told(3));
        for (int p = 0; p < 2; p++) {
            Check.due("OUT", 1, x.player(p, 7));
            Check.due("tied", 30, x.calls(p, 4));
            Check.due("nothing won", 0, x.won(p));
        }
        Check.row("over", Ask.ends(x), -1, 0, 1, 0);
        Check.due("chance without a card, above", 0, x.chance(0, 1, 0));
        Check.due("chance without a card, below", 1, x.chance(0, 1, 1));
        Check.due("cards behind twelve turns that are none", 0, x.remember(0, 4, 0));
        Check.due("nobody has more", 0, x.odds(0, 12, 0));
        Check.due("all undone", 60, x.undo(60));
        Check.due("no pool", 0, x.told(4));
        Check.due("a row of thirty", 30, x.player(1, 5));
        Check.due("none has lain", 0, x.lain(1, 29));
    }

    /** All cards in one ROW. */
    private static void winOf60() {
        SnapHeaps x = on("player 1 1 0 0;player 1 1 0 1;row 0 " + "a".repeat(29) + "c;row 1 " + "b".repeat(29) + "c;");
        Check.row("ends", Ask.ends(x), 1, 60, 1, 0);
        x.play(60);
        latest(x, "all", 1, 1, 0, 2, 60);
        Check.due("won", 60, x.won(1));
        Check.due("his row", 60, x.player(1, 5));
        Check.due("the first", 0, x.row(1, 0));
        Check.due("the 30th", 2, x.row(1, 29));
        Check.due("the 31st", 1, x.row(1, 30));
        Check.due("the last", 2, x.row(1, 59));
        Check.due("none such", -1, x.row(1, 60));
        Check.due("lain", 1, x.lain(1, 59));
        Check.due("no more turns", 0, x.play(1));
        latest(x, "the latest one stays", 1, 1, 0, 2, 60);
        Check.due("one undone", 1, x.undo(1));
        Check.due("nothing won", 0, x.won(1));
        Check.due("one card of his row", 1, x.player(1, 5));
    }

    private static void emptyPool() {
        for (int law = 0; law <= 2; law++) {
            SnapHeaps x = on("player 1 1 0 0;player 1 1 0 1;row 0 ab;row 1 ac;pool " + law + ";");
            x.play(2);
            latest(x, "no pool, law " + law, 1, 1, 0, 2, 2);
            Check.due("cards won", 2, x.won(1));
        }
    }

    /** "by LAW pool 1 all of the POOL, too, if its last card is of that KIND; by 2 in any case (behind them)". */
    private static void lastOfThePool() {
        String[] pools = {"ne", "en", "nn", "ef"};
        for (String pool : pools) {
            for (int law = 0; law <= 2; law++) {
                // 1's cards come to the POOL by his false calls in TURNS 0 and 1, in TURN 2 there are n and n
                SnapHeaps x = quiet("player 1 1 0 0;player 1 1 0 1;row 0 mng;row 1 " + pool.charAt(0) + "n" + pool.charAt(1)
                    + "g;false 1;pool " + law + ";");
                Texts.guess(x, 1, "not turn 60 2");
                Texts.plan(x, 0, "alike");
                x.play(2);
                Check.text("two in the pool", "ng/m g/n " + pool, Ask.board(x));
                x.play(1);
                boolean all = law == 2 || law == 1 && pool.charAt(1) == 'n';
                String what = "pool " + pool + ", law " + law;
                latest(x, what, 0, 0, 0, 1, all ? 5 : 3);
                Check.text(what, all ? "gMNN" + pool + "/ g/ " : "gMNN/ g/ " + pool, Ask.board(x));
                Check.due("won, " + what, all ? 5 : 3, x.won(0));
                Check.due("cards in all", 7, x.told(1));
            }
        }
    }

    /** "his heap comes behind the ROW of the next PLAYER who is not OUT (as it was laid ..)": of each of three. */
    private static void falseByNumbers() {
        String table = "player 1 1 0 0;player 1 1 0 1;player 1 1 0 2;";
        String[] rows = {"row 0 abc;row 1 ef;row 2 gi;", "row 0 ac;row 1 ef;row 2 ghi;", "row 0 abc;row 1 ef;row 2 gh;"};
        int[] turns = {3, 4, 5};
        for (int p = 0; p < 3; p++) {
            SnapHeaps x = quiet(table + rows[p]);
            Texts.plan(x, p, "turn 60 " + turns[p]);
            x.play(turns[p] + 1);
            calls(x, "false", p, 0, 0, 0, 1, 0, 0);
            latest(x, "false", -1, p, 0, 1, 0);
        }
        SnapHeaps x = quiet(table + rows[0]);
        Texts.plan(x, 0, "turn 60 3");
        x.play(4);
        Check.text("0's comes to 1", "c/ fAB/e i/g ", Ask.board(x));
        x = quiet(table + rows[1]);
        Texts.plan(x, 1, "turn 60 4");
        x.play(5);
        Check.text("1's comes to 2, he is OUT", "/ac / hiEF/g ", Ask.board(x));
        x = quiet(table + rows[2]);
        Texts.plan(x, 2, "turn 60 5");
        x.play(6);
        Check.text("2's comes to 0", "cGH/ab /ef / ", Ask.board(x));
        x = quiet(table + "row 0 abc;row 2 gh;");
        Texts.plan(x, 0, "turn 60 0");
        x.play(1);
        Check.text("1 is OUT: 0's comes to 2", "bc/ / ghA/ ", Ask.board(x));
        x = quiet(table + "row 1 abc;row 2 gh;");
        Texts.plan(x, 2, "turn 60 1");
        x.play(2);
        Check.text("0 is OUT: 2's comes to 1", "/ bcG/a h/ ", Ask.board(x));
    }

    private static void falseWithoutAHeap() {
        for (int law = 0; law <= 2; law++) {
            SnapHeaps x = quiet("player 1 1 0 0;player 1 1 0 1;row 0 abc;row 1 ef;false " + law + ";");
            Texts.guess(x, 1, "turn 60 0");
            x.play(1);
            latest(x, "false without a heap, law " + law, -1, 1, -1, 1, 0);
            Check.text("law " + law, law == 1 ? "bc/a f/ e" : "bc/a ef/ ", Ask.board(x));
        }
    }

    /** "the first card of his ROW comes to the POOL (of no ROW: the top of his heap ..)". */
    private static void falseOfOneCard() {
        // a ROW of one, no heap: he is OUT
        SnapHeaps x = quiet("player 1 1 0 0;player 1 1 0 1;row 0 abc;row 1 e;false 1;");
        Texts.guess(x, 1, "turn 60 0");
        x.play(1);
        Check.text("a row of one", "bc/a / e", Ask.board(x));
        Check.due("over", -1, x.told(3));
        // a ROW of one and a heap: the ROW goes, the heap stays
        x = quiet("player 1 1 0 0;player 1 1 0 1;row 0 ab;row 1 ef;false 1;");
        Texts.plan(x, 0, "turn 60 0");
        x.play(1);
        Check.text("a row of one and a heap", "/a ef/ b", Ask.board(x));
        // no ROW: the top of a heap of two, then of one
        x = quiet("player 1 1 0 0;player 1 1 0 1;row 0 ab;row 1 efg;false 1;");
        Texts.plan(x, 0, "turn 60 3 or turn 60 2");
        x.play(3);
        Check.text("the top of two", "/a fg/e b", Ask.board(x));
        x.play(1);
        Check.text("the top of one", "/ g/ef ba", Ask.board(x));
        Check.due("OUT", 1, x.player(0, 7));
        Check.due("false twice", 2, x.calls(0, 3));
    }

    /** A card that comes to the POOL from a ROW, or to another ROW, has lain open or has not, as before. */
    private static void poolKeepsWhatHasLain() {
        String table = "player 1 1 0 0;player 1 1 0 1;row 0 ang;row 1 benf;false 1;pool 2;";
        for (int open = 0; open <= 1; open++) {
            SnapHeaps x = quiet(table + "open 1 " + open + ";");
            Texts.guess(x, 1, "turn 60 0");
            Texts.plan(x, 0, "alike");
            x.play(4);
            Check.text("b is in the pool, n and n: open " + open, open == 1 ? "gANENB/ f/ " : "gANENb/ f/ ", Ask.board(x));
            Check.due("of its first cards", 1, x.lain(0, 1));
            Check.due("as it was", open, x.lain(0, 5));
        }
    }

    /** "AHEAD, it WINS, the card had not lain open or is not remembered": by M of the one who calls, whoever lays it. */
    private static void rememberedOrGuessed() {
        for (int memory = 0; memory <= 60; memory += memory == 1 ? 59 : 1) {
            for (int open = 0; open <= 1; open++) {
                for (int turn = 1; turn <= 2; turn++) {
                    SnapHeaps x = quiet("player 1 " + memory + " 0 0;player 1 " + (memory == 0 ? 60 : 0) + " 0 1;row 0 an;row 1 "
                        + (turn == 1 ? "ag" : "ng") + ";open 0 " + 2 * open + ";open 1 " + open + ";");
                    Texts.guess(x, 0, "turn 60 " + turn);
                    x.play(turn + 1);
                    int kind = open == 1 && memory > 0 ? 2 : 1;
                    latest(x, "M " + memory + " open " + open, 0, 0, -1, 1, turn + 1);
                    calls(x, "M " + memory + " open " + open + " turn " + turn, 0, 0, kind == 1 ? 1 : 0, kind == 2 ? 1 : 0, 0, 0, 0);
                }
            }
        }
    }

    /** "others that were not FIRST are none of these". */
    private static void kindsOfCalls() {
        SnapHeaps x = on("player 1 1 0 1;player 1 1 0 0;player 1 1 9 2;row 0 abbbb;row 1 acccc;row 2 deeee;");
        x.play(2);
        latest(x, "0 sees it, 1 is second, 2 is late", 0, 0, 0, 2, 2);
        calls(x, "seen", 0, 1, 0, 0, 0, 0, 0);
        calls(x, "second", 1, 0, 0, 0, 0, 0, 0);
        calls(x, "late", 2, 0, 0, 0, 0, 0, 1);
        Texts.plan(x, 0, "turn 1 0");
        Texts.plan(x, 1, "turn 1 0");
        x.play(1);
        latest(x, "both false, one first", -1, 0, 1, 2, 0);
        calls(x, "false", 0, 1, 0, 0, 1, 0, 0);
        calls(x, "second", 1, 0, 0, 0, 0, 0, 0);
        x.play(3);
        Check.due("some more", 3, x.calls(0, 3) + x.calls(1, 3) - 1);
        x.undo(4);
        calls(x, "undone", 0, 1, 0, 0, 0, 0, 0);
        Check.due("late stays", 1, x.calls(2, 5));
    }

    /** Promise 19: 1 to 999, and how many there were. */
    private static void playsToTheEnd() {
        SnapHeaps x = quiet("player 1 1 0 0;player 1 1 0 1;row 0 a;row 1 b;");
        Texts.plan(x, 0, "turn 60 59 and turn 59 49");
        Check.due("one", 1, x.play(1));
        Check.due("998", 998, x.play(998));
        Check.due("999", 999, x.play(999));
        Check.due("all but two", 1000, x.play(999) + x.play(1));
        Check.due("turn", 2998, x.told(2));
        Check.due("not over", 0, x.told(3));
        Check.due("two are left", 2, x.play(999));
        Check.due("turn", 3000, x.told(2));
        Check.due("over", -1, x.told(3));
        Check.due("none", 0, x.play(1));
        Check.due("none", 0, x.play(999));
        latest(x, "false, his last card", -1, 0, 1, 1, 0);
    }

    /** Promise 21: "NONE ahead of any"; of a TURN without calls. */
    private static void latestOfEach() {
        SnapHeaps x = quiet("player 1 1 3 0;player 1 1 0 1;row 0 ab;row 1 ac;");
        latest(x, "ahead of any", -1, -1, -1, -1, -1);
        Check.due("a turn", 1, x.play(1));
        latest(x, "nobody called", -1, -1, 0, 0, 0);
        x.law(0, 0);
        latest(x, "a law lets it stay", -1, -1, 0, 0, 0);
        Texts.plan(x, 0, "alike");
        x.play(1);
        latest(x, "seen", 0, 0, 4, 1, 2);
        Check.due("an undo of one", 1, x.undo(1));
        latest(x, "undone", -1, -1, -1, -1, -1);
        Check.due("an undo of none", 0, x.undo(1));
        x.play(1);
        latest(x, "again", 0, 0, 4, 1, 2);
        Check.due("no turn undone by a table with a fault", -6, Texts.table(x, ""));
        Check.due("no image", -1, x.restore());
        latest(x, "stays", 0, 0, 4, 1, 2);
        x.image();
        latest(x, "stays with an image", 0, 0, 4, 1, 2);
        x.restore();
        latest(x, "restored", -1, -1, -1, -1, -1);
        x.play(1);
        Texts.table(x, "player 1 3 3 0;player 1 1 0 1;row 0 ab;row 1 ac;");
        latest(x, "a table", -1, -1, -1, -1, -1);
        Check.due("nobody's turn is no turn", 0, on("player 1 1 1 1;player 1 1 1 1;").play(9));
    }

    /** Promise 16: from each LAW to each other one. */
    private static void lawsOfEach() {
        String[] words = {"false", "tie", "pool"};
        for (int which = 0; which <= 2; which++) {
            for (int was = 0; was <= 2; was++) {
                for (int is = 0; is <= 2; is++) {
                    SnapHeaps x = on("player 1 1 1 1;player 1 1 1 1;" + words[which] + " " + was + ";");
                    Check.due("what it was", was, x.law(which, is));
                    Check.due("what it is", is, x.told(5 + which));
                    Check.due("once more", is, x.law(which, was));
                    for (int other = 0; other <= 2; other++) {
                        Check.due("the other ones", other == which ? was : 0, x.told(5 + other));
                    }
                }
            }
        }
    }

    /** A GAME of three whose first cards are told, then their second ones; so many TURNS of it. */
    private static SnapHeaps three(char[] first, char[] second, boolean open, int turns) {
        StringBuilder table = new StringBuilder("player 1 1 9 0;player 1 60 9 1;player 1 0 9 2;");
        for (int p = 0; p < 3; p++) {
            table.append("row ").append(p).append(' ').append(first[p]).append(second[p]).append(open ? ";open " + p + " 2;" : ";");
        }
        SnapHeaps x = quiet(table.toString());
        x.play(turns);
        return x;
    }

    private static void holds(SnapHeaps x, String what, String fact, boolean... want) {
        for (int p = 0; p < want.length; p++) {
            Check.due("guess " + fact, 1, Texts.guess(x, p, fact));
            Check.due(what + ", " + fact + " of " + p, want[p] ? 1 : 0, x.would(p, 1) ? 1 : 0);
        }
    }

    /** "if the next TURN were done, two tops would be alike; and he remembers that card": of each who lays, each other top. */
    private static void knowOfEach() {
        for (int layer = 0; layer < 3; layer++) {
            for (int other = 0; other < 3; other++) {
                char[] first = {'a', 'f', 'o'};
                char[] second = {'b', 'g', 'n'};
                second[layer] = other < layer ? second[other] : first[other];
                SnapHeaps x = three(first, second, true, 3 + layer);
                String what = layer + " lays a card like " + other + "'s";
                Check.due(what, -1, x.alike());
                holds(x, what, "know", layer != other, layer != other, false);
                x = three(first, second, false, 3 + layer);
                holds(x, what + ", not open", "know", false, false, false);
            }
        }
    }

    private static void knowIfItIsCovered() {
        int[][] pairs = {{0, 1}, {0, 2}, {1, 2}};
        for (int[] pair : pairs) {
            for (int layer = 0; layer <= pair[0]; layer++) {
                char[] first = {'a', 'f', 'o'};
                char[] second = {'b', 'g', 'n'};
                first[pair[1]] = first[pair[0]];
                SnapHeaps x = three(first, second, true, 3 + layer);
                String what = pair[0] + " and " + pair[1] + " are alike, " + layer + " lays";
                Check.due(what, 10 * pair[0] + pair[1], x.alike());
                boolean stays = layer != pair[0];
                holds(x, what, "know", stays, stays, false);
            }
        }
        SnapHeaps x = three(new char[] {'a', 'a', 'a'}, new char[] {'b', 'c', 'd'}, true, 3);
        holds(x, "of three alike two are left", "know", true, true, false);
        x.play(1);
        holds(x, "of two alike one is left", "know", false, false, false);
    }

    private static void nearOfEach() {
        for (char k = 'a'; k <= 'o'; k++) {
            for (int open = 0; open <= 1; open++) {
                SnapHeaps x = quiet("player 1 1 9 0;player 1 60 9 1;player 1 0 9 2;row 0 " + k + "b;row 1 " + k + "c;row 2 " + k
                    + "d;open 0 " + open + ";open 1 " + open + ";open 2 " + open + ";");
                holds(x, "open " + open, "near " + k, open == 1, open == 1, false);
                holds(x, "another kind", "near " + (k == 'o' ? 'a' : (char) (k + 1)), false, false, false);
                x.play(3);
                holds(x, "on the heaps now", "top " + k, true, true, true);
                holds(x, "another kind", "top " + (k == 'o' ? 'a' : (char) (k + 1)), false, false, false);
            }
        }
    }

    /** "two tops are, one of them his". */
    private static void mineOfEach() {
        int[][] pairs = {{0, 1}, {0, 2}, {1, 2}};
        for (int[] pair : pairs) {
            char[] first = {'a', 'f', 'o'};
            first[pair[1]] = first[pair[0]];
            SnapHeaps x = three(first, new char[] {'b', 'g', 'n'}, false, 3);
            String what = pair[0] + " and " + pair[1];
            holds(x, what, "mine", pair[0] == 0, pair[0] == 1 || pair[1] == 1, pair[1] == 2);
            holds(x, what, "alike", true, true, true);
        }
        SnapHeaps x = three(new char[] {'a', 'f', 'o'}, new char[] {'b', 'g', 'n'}, false, 3);
        holds(x, "none", "mine", false, false, false);
        holds(x, "none", "alike", false, false, false);
        holds(quiet("player 1 1 9 0;player 1 1 9 1;row 0 a;row 1 a;"), "no tops", "mine", false, false);
    }

    /** Both ALIKE heaps, and none else, come behind the ROW of any of three. */
    private static void alikeOfEachPair() {
        String[] rows = {"row 0 ab;row 1 ag;row 2 on;", "row 0 ab;row 1 fg;row 2 an;", "row 0 ab;row 1 fg;row 2 fn;"};
        int[] turns = {1, 2, 2};
        String[][] boards = {
            {"bAA/ g/ on/ ", "b/ gAA/ on/ ", "b/ g/ onAA/ "},
            {"bAA/ g/f n/ ", "b/ gAA/f n/ ", "b/ g/f nAA/ "},
            {"bFF/a g/ n/ ", "b/a gFF/ n/ ", "b/a g/ nFF/ "}};
        for (int i = 0; i < 3; i++) {
            for (int who = 0; who < 3; who++) {
                SnapHeaps x = quiet("player 1 1 9 0;player 1 1 9 1;player 1 1 9 2;" + rows[i]);
                Texts.guess(x, who, "turn 60 " + turns[i]);
                x.play(turns[i] + 1);
                latest(x, rows[i] + " won by " + who, who, who, -1, 1, 2);
                Check.text(rows[i] + " won by " + who, boards[i][who], Ask.board(x));
            }
        }
    }

    /** "ALIKE heaps go to the POOL (the least PLAYER's first ..)". */
    private static void tiedOfEachPair() {
        String[] rows = {"row 0 ka;row 1 la;row 2 mb;", "row 0 ka;row 1 lb;row 2 ma;", "row 0 kb;row 1 la;row 2 ma;"};
        String[] boards = {"/ / b/m kala", "/ /lb / kama", "/kb / / lama"};
        for (int i = 0; i < 3; i++) {
            SnapHeaps x = quiet("player 1 1 9 0;player 1 1 9 1;player 1 1 9 2;tie 2;" + rows[i]);
            int last = i == 0 ? 4 : 5;
            Texts.guess(x, 0, "turn 60 " + last);
            Texts.guess(x, 2, "turn 60 " + last);
            x.play(last + 1);
            latest(x, "tied " + rows[i], -1, -1, 0, 2, 0);
            Check.text("tied " + rows[i], boards[i], Ask.board(x));
        }
    }

    /** What is asked in (b) is how all stands then, not how it stood in the TURN ahead. */
    private static void guessesBehindAWin() {
        String[] facts = {"alike", "mine", "know"};
        for (String fact : facts) {
            SnapHeaps x = on("player 1 1 0 0;player 1 1 0 1;row 0 abc;row 1 abc;");
            x.play(2);
            latest(x, "a and a are won", 1, 1, 0, 2, 2);
            Texts.guess(x, 0, fact);
            Texts.guess(x, 1, fact);
            x.play(1);
            latest(x, "nothing is alike behind a win, " + fact, -1, -1, 0, 0, 0);
        }
    }

    private static void knowBehindTurningOver() {
        SnapHeaps x = quiet("player 1 1 9 0;player 1 0 9 1;row 0 ab;row 1 cad;");
        Texts.guess(x, 0, "know");
        Texts.guess(x, 1, "know");
        x.play(4);
        Check.text("no row", "/ab d/ca ", Ask.board(x));
        latest(x, "nobody knows", -1, -1, 0, 0, 0);
        x.play(1);
        latest(x, "his heap is turned over, and a comes first", 0, 0, -1, 1, 3);
        calls(x, "remembered", 0, 0, 0, 1, 0, 0, 0);
        Check.text("won", "BACA/ d/ ", Ask.board(x));
    }

    private static void would(SnapHeaps x, int player, String fact, boolean want) {
        Check.due("plan " + fact, 1, Texts.plan(x, player, fact));
        Check.due(fact + " of " + player, want ? 1 : 0, x.would(player, 0) ? 1 : 0);
    }

    /** "heap" "<" N, "heap" ">" N, "row" "<" N, "row" ">" N, "pool" ">" N (N 0 to 60): of 0, 59 and 60 cards. */
    private static void sizesOfNoneAndAll() {
        String sixty = "abcdefghijklmno".repeat(4);
        SnapHeaps x = quiet("player 1 1 0 0;player 1 1 0 1;row 0 " + sixty + ";");
        would(x, 0, "row>59", true);
        would(x, 0, "row>60", false);
        would(x, 0, "row<60", false);
        would(x, 0, "heap>0", false);
        would(x, 0, "heap<1", true);
        would(x, 0, "heap<0", false);
        would(x, 1, "row>0", false);
        would(x, 1, "row<1", true);
        would(x, 1, "row<0", false);
        would(x, 1, "pool>0", false);
        x = quiet("player 1 1 0 0;player 1 1 0 1;row 0 " + sixty.substring(1) + ";row 1 a;");
        would(x, 0, "row<60", true);
        would(x, 0, "row<59", false);
        would(x, 0, "row>58", true);
        would(x, 0, "row<0", false);
        x.play(117);
        would(x, 0, "heap>58", true);
        would(x, 0, "heap>59", false);
        would(x, 0, "heap<60", true);
        would(x, 0, "heap<59", false);
        would(x, 1, "heap<2", true);
        would(x, 1, "heap<1", false);
        x = on("player 1 1 0 2;player 1 1 0 2;row 0 " + "a".repeat(30) + ";row 1 " + "a".repeat(30) + ";tie 2;");
        x.play(60);
        would(x, 0, "pool>59", true);
        would(x, 1, "pool>60", false);
        would(x, 1, "pool>0", true);
    }

    /** "the number of the TURN leaves R by M, 1 to 60; R less than M". */
    private static void turnsThatLeaveOnesAndLast() {
        SnapHeaps x = quiet("player 1 1 0 0;player 1 1 0 1;row 0 a;row 1 b;");
        int[] turns = {0, 1, 2, 57, 58, 59, 60, 61, 118, 119, 120};
        for (int turn : turns) {
            Texts.plan(x, 0, QUIET);
            while (x.told(2) < turn) {
                x.play(turn - x.told(2));
            }
            would(x, 0, "turn 60 59", turn % 60 == 59);
            would(x, 0, "turn 60 0", turn % 60 == 0);
            would(x, 0, "turn 2 1", turn % 2 == 1);
            would(x, 0, "turn 1 0", true);
            would(x, 0, "turn 59 58", turn % 59 == 58);
        }
    }

    /** "nobody has a TURN": there is no next one to know of; all else holds as it stands. */
    private static void wouldIfItIsOver() {
        SnapHeaps x = quiet("player 1 60 0 0;player 1 60 0 1;row 0 aaa;open 0 3;");
        Check.due("over", -1, x.told(3));
        would(x, 0, "know", false);
        would(x, 1, "know", false);
        would(x, 0, "near a", true);
        would(x, 1, "near a", false);
        would(x, 0, "row>2", true);
        would(x, 0, "turn 9 0", true);
        would(x, 0, "alike or mine or top a", false);
        x = on("player 1 60 0 0;player 1 60 0 1;row 0 a;row 1 a;");
        x.play(2);
        would(x, 0, "know", false);
        would(x, 1, "know", false);
        would(x, 1, "near a", true);
        would(x, 0, "turn 9 2", true);
    }
}
