/** The edges of what goes back, and of what is kept (promises 20, 37 to 42): none, all, one more than there are. */
public final class BackEdgesTest {
    private static final String TWO = "player 1 1 0 0;player 1 1 0 1;";
    private static final String ROUND = TWO + "row 0 ab;row 1 cd;";
    private static final String SOON = TWO + "row 0 abc;row 1 abc;";

    public static void main(String[] args) {
        undoNoneAllAndMore();
        undoOf999();
        undoInParts();
        undoFromTheEnd();
        undoOfNoneKeepsTheLatest();
        undoBehindWhatStopsIt();
        undoUpToTheStop();
        manyCalls();
        manyTurns();
        noBook();
        rightUpToTheLatest();
        rightOfNobody();
        rightOfTwelve();
        linesOfTheBook();
        images0To3();
        imagesOfAllKinds();
        restoreCantBeUndone();
        tablesTakeImages();
        refusalsAreKept();
        countsOfAll();
        tablesTakeWhatStops();
        undoOf60Cards();
        imagesOfLateTurns();
        Check.end("BackEdgesTest");
    }

    private static SnapHeaps on(String table) {
        SnapHeaps x = new SnapHeaps();
        Check.holds("a table: " + table, Texts.table(x, table) >= 2);
        return x;
    }

    private static SnapHeaps behind(String table, int turns) {
        SnapHeaps x = on(table);
        int left = turns;
        while (left > 0) {
            left -= x.play(Math.min(999, left));
        }
        return x;
    }

    private static void undoNoneAllAndMore() {
        SnapHeaps x = on(SOON);
        Check.due("none at first", 0, x.undo(1));
        Check.due("nor 999", 0, x.undo(999));
        for (int turns = 1; turns <= 4; turns++) {
            for (int n = 1; n <= 5; n++) {
                SnapHeaps y = behind(SOON, turns);
                int due = Math.min(n, turns);
                Check.due(n + " of " + turns, due, y.undo(n));
                Check.text(n + " of " + turns, Ask.board(behind(SOON, turns - due)), Ask.board(y));
                Check.due("turn", turns - due, y.told(2));
                Check.due("left", turns - due, y.count(3));
            }
        }
    }

    private static void undoOf999() {
        for (int turns = 998; turns <= 1000; turns++) {
            SnapHeaps x = behind(ROUND, turns);
            Check.due("so many", turns, x.count(3));
            Check.due("999 at most", Math.min(999, turns), x.undo(999));
            Check.due("one is left of 1000", Math.max(0, turns - 999), x.count(3));
            Check.due("turn", Math.max(0, turns - 999), x.told(2));
        }
    }

    private static void undoInParts() {
        SnapHeaps x = on(ROUND);
        x.play(7);
        x.play(1);
        x.play(9);
        int[] parts = {1, 8, 2, 1, 4, 1};
        int left = 17;
        for (int part : parts) {
            Check.due("a part", part, x.undo(part));
            left -= part;
            Check.due("turn", left, x.told(2));
            Check.text("board", Ask.board(behind(ROUND, left)), Ask.board(x));
        }
        Check.due("no more", 0, x.undo(1));
        Check.due("from here on", 5, x.play(5));
        Check.due("all of them", 5, x.undo(6));
    }

    private static void undoFromTheEnd() {
        SnapHeaps x = on(TWO + "row 0 a;row 1 a;");
        Check.due("over behind two", 2, x.play(999));
        Check.due("nothing to play", 0, x.play(1));
        Check.due("two can be undone", 2, x.count(3));
        Check.due("one", 1, x.undo(1));
        Check.due("it is not over", 1, x.told(3));
        Check.due("not won", 0, x.won(1));
        Check.due("not seen", 0, x.calls(1, 0));
        Check.due("again", 1, x.play(999));
        Check.due("over", -1, x.told(3));
        Check.due("won", 2, x.won(1));
        Check.due("both", 2, x.undo(999));
        Check.text("as at first", "a/ a/ ", Ask.board(x));
    }

    /** "behind an undo() that undid one": one that undid none changes nothing, though the GAME was played on for no TURN. */
    private static void undoOfNoneKeepsTheLatest() {
        for (int i = 0; i < STOPS.length; i++) {
            SnapHeaps x = on(TWO + "row 0 a;row 1 a;");
            x.play(2);
            STOPS[i].go(x);
            int[] latest = Ask.latest(x);
            String board = Ask.board(x);
            Check.due("1 won, " + i, 1, latest[0]);
            Check.due("it is over, " + i, 0, x.play(3));
            Check.due("none undone, " + i, 0, x.undo(3));
            Check.row("latest, " + i, Ask.latest(x), latest);
            Check.text("board, " + i, board, Ask.board(x));
        }
    }

    private interface Call {
        void go(SnapHeaps x);
    }

    private static final Call[] STOPS = {x -> x.law(0, 0), x -> x.law(1, 2), x -> x.law(2, 0), x -> x.draws(0), x -> x.still(),
        x -> x.shuffle(1), x -> Texts.plan(x, 0, "alike"), x -> Texts.guess(x, 1, "top o")};

    /** "all that went by ahead stays": at once, and behind none, one, two TURNS more. */
    private static void undoBehindWhatStopsIt() {
        for (int i = 0; i < STOPS.length; i++) {
            for (int more = 0; more <= 2; more++) {
                SnapHeaps x = behind(SOON, 3);
                STOPS[i].go(x);
                Check.due("none, " + i, 0, x.count(3));
                Check.due("none, " + i, 0, x.undo(999));
                for (int k = 0; k < more; k++) {
                    x.play(1);
                }
                Check.due("so many, " + i, more, x.count(3));
                Check.due("no more than came behind, " + i, more, x.undo(999));
                Check.due("turn, " + i, 3, x.told(2));
            }
        }
    }

    /** Undone up to such a call, the TURNS behind it go as it says. */
    private static void undoUpToTheStop() {
        SnapHeaps x = behind(SOON, 1);
        Texts.plan(x, 1, "row<0");
        x.play(1);
        Check.due("0 wins", 0, x.latest(0));
        x.undo(1);
        Check.due("the plan stays", 1, x.play(1));
        Check.due("0 wins again", 0, x.latest(0));
        x.undo(1);
        x.law(1, 1);
        Check.due("nothing to undo", 0, x.undo(1));
        x.play(1);
        x.undo(1);
        Check.due("the law stays", 1, x.told(6));
        x.draws(9);
        x.play(1);
        int delay = x.latest(2);
        x.undo(1);
        x.play(1);
        Check.due("drawn by the same seed", delay, x.latest(2));
        x.undo(1);
        Check.due("still drawn", 1, x.still());
    }

    /** "at most 512 calls": play() and undo() in nearly all of them. */
    private static void manyCalls() {
        SnapHeaps x = on(ROUND);
        for (int i = 1; i <= 250; i++) {
            Check.due("one", 1, x.play(1));
        }
        for (int i = 1; i <= 249; i++) {
            Check.due("one back", 1, x.undo(1));
        }
        Check.due("one is left", 1, x.told(2));
        Check.due("which can be undone", 1, x.count(3));
        Check.due("no more than that", 1, x.undo(2));
        SnapHeaps y = on(ROUND);
        for (int i = 1; i <= 480; i++) {
            y.play(1 + i % 2);
        }
        Check.due("turns", 720, y.told(2));
        Check.due("half of them", 361, y.undo(361));
        Check.text("board", Ask.board(behind(ROUND, 359)), Ask.board(y));
        Check.due("all others", 359, y.undo(999));
    }

    private static void manyTurns() {
        SnapHeaps x = on(ROUND);
        for (int i = 0; i < 300; i++) {
            x.play(999);
        }
        Check.due("turns", 299700, x.told(2));
        Check.due("all can be undone", 299700, x.count(3));
        for (int i = 0; i < 150; i++) {
            Check.due("999", 999, x.undo(999));
        }
        Check.due("half of them", 149850, x.told(2));
        Check.due("can be undone", 149850, x.count(3));
        // 149,850 leaves 2 by 4, as 6 does
        Check.text("board", Ask.board(behind(ROUND, 6)), Ask.board(x));
        Check.due("a book can't tell of such a turn", -8, Texts.book(x, "149849 0;"));
    }

    private static void noBook() {
        SnapHeaps x = behind(SOON, 2);
        Check.due("no lines", 0, x.count(2));
        Check.due("right", 0, x.right());
        Check.due("no T", -1, x.entry(0, 0));
        Check.due("no P", -1, x.entry(0, 1));
    }

    /** "of TURNS that have gone by and are not undone". In SOON 1 wins in TURNS 1 and 3. */
    private static void rightUpToTheLatest() {
        SnapHeaps x = on(SOON);
        Texts.book(x, "1 1;3 1;");
        int[] right = {0, 0, 1, 1, 2};
        for (int t = 0; t <= 4; t++) {
            Check.due("right behind " + t, right[t], x.right());
            x.play(1);
        }
        for (int t = 4; t >= 0; t--) {
            x.undo(1);
            Check.due("right, undone to " + t, right[t], x.right());
        }
        SnapHeaps y = behind(SOON, 4);
        String[] books = {"0 0;", "0 1;", "1 0;", "1 1;", "2 0;", "2 1;", "3 0;", "3 1;", "4 1;", "9999 1;"};
        int[] rights = {0, 0, 0, 1, 0, 0, 0, 1, 0, 0};
        for (int i = 0; i < books.length; i++) {
            Texts.book(y, books[i]);
            Check.due("right of " + books[i], rights[i], y.right());
        }
    }

    /** A TURN that nobody won is told of by no line. */
    private static void rightOfNobody() {
        SnapHeaps x = behind(ROUND, 9);
        for (int t = 0; t < 9; t++) {
            Texts.book(x, t + " 0;" + t + " 1;");
            Check.due("nobody won in " + t, 0, x.right());
        }
        SnapHeaps y = on(TWO + "row 0 ab;row 1 ac;");
        Texts.guess(y, 0, "turn 60 0");
        Texts.plan(y, 1, "row<0");
        y.play(2);
        Check.due("false in 0", 1, y.calls(0, 3));
        Texts.book(y, "0 0;");
        Check.due("a false call is no win", 0, y.right());
        Texts.book(y, "1 0;");
        Check.due("0's a is gone: nothing is alike in 1", 0, y.right());
    }

    private static void rightOfTwelve() {
        SnapHeaps x = behind(SOON, 4);
        for (int wrong = 0; wrong <= 12; wrong++) {
            StringBuilder book = new StringBuilder();
            for (int i = 0; i < 12; i++) {
                book.append(i == wrong ? "2 1;" : i % 2 == 0 ? "1 1;" : "3 1;");
            }
            Check.due("twelve lines", 12, Texts.book(x, book.toString()));
            Check.due("right up to " + wrong, wrong, x.right());
        }
    }

    private static void linesOfTheBook() {
        SnapHeaps x = on(SOON);
        for (int lines = 0; lines <= 12; lines++) {
            Check.due("lines", lines, Texts.book(x, "17 1;".repeat(lines)));
            Check.due("count", lines, x.count(2));
            if (lines > 0) {
                Check.due("the last, T", 17, x.entry(lines - 1, 0));
                Check.due("the last, P", 1, x.entry(lines - 1, 1));
            }
            Check.due("none such, T", -1, x.entry(lines, 0));
            Check.due("none such, P", -1, x.entry(lines, 1));
            Check.due("none such", -1, x.entry(-1, 0));
        }
        Check.due("of nothing", 0, Texts.book(x, ""));
        Check.due("no lines", 0, x.count(2));
    }

    private static void images0To3() {
        SnapHeaps x = on(SOON);
        Check.due("none to restore", -1, x.restore());
        Check.due("none", 0, x.count(0));
        for (int i = 1; i <= 3; i++) {
            x.play(1);
            Check.due("how many there are", i, x.image());
            Check.due("count", i, x.count(0));
        }
        x.play(1);
        Check.due("there are 3", -1, x.image());
        Check.due("count", 3, x.count(0));
        for (int i = 2; i >= 0; i--) {
            Check.due("how many are left", i, x.restore());
            Check.due("the latest one", i + 1, x.told(2));
            Check.due("count", i, x.count(0));
            Check.due("nothing to undo", 0, x.undo(1));
        }
        Check.due("none is left", -1, x.restore());
        Check.due("turn", 1, x.told(2));
        Check.due("room for one again", 1, x.image());
    }

    /** "An IMAGE of all but the BOOK, and refusals": what stands there is brought back, what came since is gone. */
    private static void imagesOfAllKinds() {
        String text = "alike and not turn 9 7";
        SnapHeaps x = on(SOON + "moment 4;");
        Texts.plan(x, 0, "turn 60 0");
        Texts.guess(x, 1, "turn 60 2");
        x.draws(31);
        x.play(2);
        Texts.feed(x, text);
        String due = Whole.now(x);
        Check.due("an image", 1, x.image());
        Texts.plan(x, 0, "x");
        Texts.plan(x, 0, "row<0");
        Texts.guess(x, 1, "row<0");
        x.law(0, 1);
        x.law(1, 1);
        x.law(2, 1);
        x.draws(32);
        x.play(1);
        x.shuffle(3);
        Texts.book(x, "0 0;");
        Check.noNumber(x, "a refusal", () -> x.play(0));
        Check.due("restored", 0, x.restore());
        String[] parts = due.split(" latest [-0-9 ]*");
        String[] now = Whole.now(x).split(" latest [-0-9 ]*");
        Check.text("all but the latest", parts[0] + parts[1], now[0] + now[1]);
        Check.row("the latest", Ask.latest(x), -1, -1, -1, -1, -1);
        Check.due("the book is as it was", 1, x.count(2));
        Check.due("refusals are", 1, x.status(1));
        Check.due("the tape", 40, x.count(1));
        Check.due("its bytes", 1, x.plan(0, text.length()));
        Check.due("drawn", 1, x.still());
    }

    /** "TURNS ahead of it can't be undone any more". */
    private static void restoreCantBeUndone() {
        SnapHeaps x = behind(SOON, 2);
        x.image();
        Check.due("an image lets them be undone", 2, x.count(3));
        x.play(1);
        Check.due("three", 3, x.undo(999));
        x.play(4);
        Check.due("restored", 0, x.restore());
        Check.due("turn", 2, x.told(2));
        Check.due("none", 0, x.count(3));
        Check.due("none", 0, x.undo(999));
        x.play(1);
        Check.due("but what comes behind", 1, x.undo(999));
        Check.due("turn", 2, x.told(2));
        Check.due("seen in TURN 1", 1, x.calls(1, 0));
        Check.due("won in TURN 1", 2, x.won(1));
    }

    private static void tablesTakeImages() {
        SnapHeaps x = on(SOON);
        x.image();
        x.image();
        Check.due("a fault", -6, Texts.table(x, ""));
        Check.due("they stay", 2, x.count(0));
        Check.due("a table", 2, Texts.table(x, ROUND));
        Check.due("they are gone", 0, x.count(0));
        Check.due("none", -1, x.restore());
        Check.due("the first of three again", 1, x.image());
    }

    /** Promise 41: "No IMAGE keeps it". */
    private static void refusalsAreKept() {
        SnapHeaps x = on(SOON);
        x.image();
        Check.noNumber(x, "play(0)", () -> x.play(0));
        Check.noPlayer(x, "won(2)", () -> x.won(2));
        Check.noPlayer(x, "won(-1)", () -> x.won(-1));
        x.restore();
        Check.due("no such players", 2, x.status(0));
        Check.due("wrong numbers", 1, x.status(1));
        Texts.table(x, ROUND);
        Check.due("no such players", 2, x.status(0));
        Check.due("wrong numbers", 1, x.status(1));
        int[] others = {-2, -1, 2, 3, 99};
        for (int what : others) {
            Check.due("status " + what, -1, x.status(what));
        }
        Check.due("asking for it is no refusal", 1, x.status(1));
        SnapHeaps fresh = new SnapHeaps();
        Check.due("none of another object", 0, fresh.status(0) + fresh.status(1));
    }

    private static void countsOfAll() {
        SnapHeaps x = new SnapHeaps();
        int[] others = {-2, -1, 4, 5, 99};
        for (int what : others) {
            Check.due("count " + what, -1, x.count(what));
        }
        for (int what = 0; what <= 3; what++) {
            Check.due("none yet, " + what, 0, x.count(what));
        }
        for (int i = 1; i <= 30; i++) {
            x.feed(0, 0, 0, 0, 0);
            Check.due("bytes", 20 * i, x.count(1));
        }
        x.feed(0, 0, 0, 0, 0);
        Check.due("no more than 600", 600, x.count(1));
        Check.noNumber(x, "table(601)", () -> x.table(601));
        Check.due("they stay", 600, x.count(1));
        Check.due("a fault", -9, x.table(600));
        Check.due("none", 0, x.count(1));
    }

    private static void tablesTakeWhatStops() {
        for (int i = 0; i < STOPS.length; i++) {
            SnapHeaps x = behind(SOON, 3);
            STOPS[i].go(x);
            x.play(1);
            Check.due("a table", 2, Texts.table(x, SOON));
            Check.due("none to undo", 0, x.count(3));
            Check.due("none", 0, x.undo(1));
            x.play(2);
            Check.due("two", 2, x.count(3));
            Check.due("two", 2, x.undo(999));
            Check.text("as at first", "abc/ abc/ ", Ask.board(x));
        }
    }

    /** 60 cards of all KINDS, open and not, in ROWS, heaps and the POOL, are as they were. */
    private static void undoOf60Cards() {
        String kinds = "abcdefghijklmno";
        String table = TWO + "player 1 1 0 2;row 0 " + kinds + "onmlk;row 1 " + "onmlkjihgfedcba" + "edcba;row 2 " + "hgfedcbaijklmno"
            + "nonon;open 0 7;open 1 13;open 2 20;false 1;tie 2;pool 1;";
        int[] turns = {1, 17, 33, 60};
        for (int turn : turns) {
            SnapHeaps x = on(table);
            Texts.guess(x, 1, "turn 5 3 or turn 7 1");
            Check.due("turns", turn, x.play(turn));
            String due = Ask.board(x);
            SnapHeaps y = on(table);
            Texts.guess(y, 1, "turn 5 3 or turn 7 1");
            y.play(turn);
            int more = y.play(40);
            Check.due("undone", more, y.undo(more));
            Check.text("60 cards behind " + turn, due, Ask.board(y));
            Check.due("all undone", turn, y.undo(turn));
            Check.text("60 cards at first", Ask.board(on(table)), Ask.board(y));
        }
    }

    /** An IMAGE keeps who won, up to the last TURN that a BOOK can tell of. */
    private static void imagesOfLateTurns() {
        SnapHeaps x = on(SOON);
        Texts.plan(x, 0, "alike and turn 60 39 and turn 59 28 and turn 7 3");
        Texts.plan(x, 1, "row<0");
        for (int i = 0; i < 10; i++) {
            x.play(999);
        }
        x.play(10);
        Check.due("0 wins in TURN 9,999", 0, x.latest(0));
        Texts.book(x, "9999 0;");
        Check.due("right", 1, x.right());
        x.image();
        x.play(5);
        Check.due("still right", 1, x.right());
        x.restore();
        Check.due("right in the image", 1, x.right());
        x.play(1);
        Check.due("nobody wins behind it", -1, x.latest(0));
        Check.due("one can be undone", 1, x.undo(999));
        Check.due("right all the same", 1, x.right());
        SnapHeaps y = on(SOON);
        Texts.plan(y, 0, "alike and turn 60 39 and turn 59 28 and turn 7 3");
        Texts.plan(y, 1, "row<0");
        for (int i = 0; i < 10; i++) {
            y.play(999);
        }
        y.play(10);
        y.image();
        y.undo(1);
        Texts.guess(y, 1, "turn 60 39 and turn 59 28 and turn 7 3");
        y.play(1);
        Texts.book(y, "9999 1;");
        Check.due("now 1 wins in it", 1, y.right());
        y.restore();
        Check.due("in the image he does not", 0, y.right());
        Texts.book(y, "9999 0;9999 0;");
        Check.due("but 0", 2, y.right());
    }
}
