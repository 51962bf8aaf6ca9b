/** Promises 20, 39 and 40: TURNS undone, IMAGES taken and restored. */
public final class BackTest {
    private static final String TABLE = "player 1 1 0 0;player 1 2 1 1;player 1 3 2 2;row 0 abcab;row 1 acbba;"
        + "row 2 bacca;false 1;tie 2;pool 1;";

    public static void main(String[] args) {
        undoing();
        undoingManyTimes();
        undoingLongOnes();
        whatStopsIt();
        whatDoesNot();
        undoneSeeds();
        latest();
        images();
        imagesKeepAll();
        imagesAndUndo();
        refusals();
        Check.end("BackTest");
    }

    private static SnapHeaps on() {
        SnapHeaps x = new SnapHeaps();
        Texts.table(x, TABLE);
        Texts.guess(x, 0, "turn 5 2");
        Texts.guess(x, 1, "turn 7 3");
        return x;
    }

    /** All of a GAME that TURNS change, but the latest one. */
    private static String state(SnapHeaps x) {
        StringBuilder all = new StringBuilder(Ask.board(x));
        all.append(' ').append(x.told(2)).append(' ').append(x.told(3));
        for (int p = 0; p < x.told(0); p++) {
            for (int call : Ask.calls(x, p)) {
                all.append(' ').append(call);
            }
            all.append(" won ").append(x.won(p));
        }
        return all.toString();
    }

    /** So many TURNS of a new object. */
    private static SnapHeaps behind(int turns) {
        SnapHeaps x = on();
        for (int t = 0; t < turns; t++) {
            Check.due("one turn", 1, x.play(1));
        }
        return x;
    }

    private static void undoing() {
        SnapHeaps all = on();
        int turns = all.play(39);
        Check.holds("a game of some turns", turns > 6);
        Check.due("turns that can be undone", turns, all.count(3));
        String end = state(all);
        for (int t = 0; t < turns; t++) {
            String due = state(behind(t));
            SnapHeaps x = behind(turns);
            Check.due("undo many", turns - t, x.undo(turns - t));
            Check.text("as it was behind " + t, due, state(x));
            SnapHeaps y = behind(turns);
            for (int i = turns; i > t; i--) {
                Check.due("undo one", 1, y.undo(1));
            }
            Check.text("as it was behind " + t + ", one by one", due, state(y));
            Check.due("left", t, y.count(3));
            Check.due("once more", turns - t, y.play(turns - t));
            Check.text("the same again", end, state(y));
        }
        Check.due("more than there are", turns, all.undo(999));
        Check.text("as it was at first", state(on()), state(all));
        Check.due("none is left", 0, all.count(3));
        Check.due("no more", 0, all.undo(1));
    }

    private static void undoingManyTimes() {
        SnapHeaps x = behind(4);
        for (int i = 0; i < 100; i++) {
            x.play(2);
            Check.due("two", 2, x.undo(2));
        }
        Check.text("four", state(behind(4)), state(x));
        x.undo(1);
        Check.text("three", state(behind(3)), state(x));
        Check.due("three can be undone", 3, x.count(3));
    }

    private static void undoingLongOnes() {
        SnapHeaps x = new SnapHeaps();
        Texts.table(x, "player 1 1 0 0;player 1 1 0 1;row 0 abc;row 1 de;");
        x.draws(8);
        String first = state(x);
        for (int i = 0; i < 12; i++) {
            Check.due("999", 999, x.play(999));
        }
        Check.due("all can be undone", 12 * 999, x.count(3));
        String end = state(x);
        Check.due("500", 500, x.undo(500));
        Check.due("turn", 12 * 999 - 500, x.told(2));
        Check.due("500 on", 500, x.play(500));
        Check.text("the same", end, state(x));
        for (int i = 0; i < 12; i++) {
            Check.due("999", 999, x.undo(999));
        }
        Check.text("as at first", first, state(x));
        Check.due("no more", 0, x.undo(999));
    }

    private static void whatStopsIt() {
        for (int what = 0; what < 9; what++) {
            SnapHeaps x = on();
            x.image();
            x.play(5);
            String five = state(x);
            stop(x, what);
            Check.due("can't be undone any more, " + what, 0, x.count(3));
            Check.due("not one, " + what, 0, x.undo(1));
            if (what != 4 && what < 7) {
                Check.text("it stays, " + what, five, state(x));
            }
            int more = x.play(2);
            Check.due("what came behind can, " + what, more, x.undo(9));
        }
    }

    private static void stop(SnapHeaps x, int what) {
        switch (what) {
            case 0:
                x.law(2, 1);
                break;
            case 1:
                x.law(0, 1);
                break;
            case 2:
                x.draws(0);
                break;
            case 3:
                x.still();
                break;
            case 4:
                x.shuffle(1);
                break;
            case 5:
                Texts.plan(x, 0, "alike");
                break;
            case 6:
                Texts.guess(x, 2, "alike");
                break;
            case 7:
                Texts.table(x, TABLE);
                break;
            default:
                x.restore();
                break;
        }
    }

    private static void whatDoesNot() {
        SnapHeaps x = on();
        x.play(5);
        Check.noNumber(x, "law(0, 3)", () -> x.law(0, 3));
        Check.noPlayer(x, "plan(3, 0)", () -> x.plan(3, 0));
        Check.noNumber(x, "guess(0, 151)", () -> x.guess(0, 151));
        Texts.plan(x, 0, "alike or");
        Texts.guess(x, 0, "alike or");
        Texts.table(x, "player 1 1 1 1;");
        Check.due("no image", -1, x.restore());
        Texts.book(x, "1 1;");
        x.image();
        x.ends(1);
        x.lot(3, 3, 0);
        x.laws(3, 0);
        x.where(0);
        x.remember(0, 4, 0);
        x.odds(0, 9, 0);
        Check.due("all can be undone", 5, x.count(3));
        Check.due("three", 3, x.undo(3));
        Check.due("two", 2, x.undo(3));
    }

    private static SnapHeaps drawn() {
        SnapHeaps x = new SnapHeaps();
        Texts.table(x, "player 1 1 0 0;player 1 1 0 1;player 1 1 0 2;row 0 aaaaab;row 1 abaaab;row 2 aabaab;");
        x.draws(123);
        return x;
    }

    private static void undoneSeeds() {
        SnapHeaps x = drawn();
        int turns = x.play(30);
        String end = state(x);
        Check.holds("a game of some turns", turns > 6);
        for (int t = 0; t < turns; t++) {
            SnapHeaps due = drawn();
            for (int i = 0; i < t; i++) {
                due.play(1);
            }
            SnapHeaps y = drawn();
            y.play(turns);
            y.undo(turns - t);
            Check.text("behind " + t, state(due), state(y));
            y.play(turns - t);
            Check.text("drawn alike once more", end, state(y));
        }
    }

    private static void latest() {
        SnapHeaps x = on();
        x.play(4);
        Check.holds("there is a latest one", x.latest(3) != -1);
        x.undo(2);
        Check.row("behind undo", Ask.latest(x), -1, -1, -1, -1, -1);
        x.play(1);
        Check.holds("again", x.latest(3) != -1);
        x.undo(1);
        x.undo(2);
        x.play(2);
        x.law(0, 0);
        int[] before = Ask.latest(x);
        Check.due("an undo of none", 0, x.undo(5));
        Check.row("lets it stay", Ask.latest(x), before);
        x.image();
        Check.row("an image, too", Ask.latest(x), before);
        x.play(1);
        x.restore();
        Check.row("restore does not", Ask.latest(x), -1, -1, -1, -1, -1);
        x.play(1);
        Texts.table(x, TABLE);
        Check.row("nor a table", Ask.latest(x), -1, -1, -1, -1, -1);
    }

    private static void images() {
        String zero = state(on());
        String two = state(behind(2));
        String four = state(behind(4));
        SnapHeaps x = on();
        Check.due("none", -1, x.restore());
        Check.due("one", 1, x.image());
        x.play(2);
        Check.due("two", 2, x.image());
        x.play(2);
        Check.due("three", 3, x.image());
        x.play(2);
        Check.due("there are 3", -1, x.image());
        Check.due("three", 3, x.count(0));
        Check.due("two are left", 2, x.restore());
        Check.text("four turns", four, state(x));
        Check.due("two images", 2, x.count(0));
        x.play(1);
        Check.due("one is left", 1, x.restore());
        Check.text("two turns", two, state(x));
        Check.due("two again", 2, x.image());
        Check.due("one is left", 1, x.restore());
        Check.due("none is left", 0, x.restore());
        Check.text("no turns", zero, state(x));
        Check.due("none", -1, x.restore());
        Check.due("nothing is done", 0, x.told(2));
    }

    private static void imagesKeepAll() {
        SnapHeaps x = on();
        x.play(3);
        Check.due("a fault", -9, Texts.plan(x, 1, "alike x"));
        x.feed(1, 2, 3, 4, 5);
        Texts.book(x, "");
        Texts.plan(x, 2, "not alike");
        Texts.plan(x, 0, "x");
        Texts.feed(x, "top a");
        x.draws(99);
        Check.due("an image", 1, x.image());
        Texts.table(x, "player 1");
        Texts.plan(x, 2, "alike");
        Texts.guess(x, 2, "row>0");
        Check.due("false was", 1, x.law(0, 0));
        x.law(1, 0);
        x.law(2, 0);
        x.still();
        x.shuffle(7);
        x.play(3);
        Texts.book(x, "0 1;");
        Check.noNumber(x, "play(0)", () -> x.play(0));
        x.restore();
        Check.due("turn", 3, x.told(2));
        Check.due("false", 1, x.told(5));
        Check.due("tie", 2, x.told(6));
        Check.due("pool", 1, x.told(7));
        Check.due("the fault's place", 0, x.fault());
        Check.due("the tape", 20, x.count(1));
        Check.holds("the plan", x.would(2, 0) != x.alike() > -1);
        Check.holds("no guess", !x.would(2, 1));
        Check.due("the book is kept by no image", 1, x.count(2));
        Check.due("nor refusals", 1, x.status(1));
        Check.due("drawn", 1, x.still());
        Check.due("its bytes", 1, x.plan(0, 5));
    }

    private static void imagesAndUndo() {
        SnapHeaps x = on();
        x.play(3);
        x.image();
        Check.due("an image stops nothing", 3, x.count(3));
        x.play(2);
        Check.due("all five", 5, x.undo(9));
        x.play(1);
        x.restore();
        Check.due("three turns", 3, x.told(2));
        Check.due("they can't be undone any more", 0, x.count(3));
        Check.due("none", 0, x.undo(1));
        x.play(2);
        Check.due("these can", 2, x.undo(9));
        SnapHeaps y = on();
        y.play(5);
        String five = state(y);
        SnapHeaps z = on();
        z.play(3);
        z.image();
        z.play(4);
        z.restore();
        z.play(2);
        Check.text("it goes on as if nothing had been", five, state(z));
        SnapHeaps none = new SnapHeaps();
        Check.due("an image of no players", 1, none.image());
        Check.due("is gone with a table", 2, Texts.table(none, "player 1 1 1 1;player 1 1 1 1;"));
        Check.due("none", -1, none.restore());
    }

    private static void refusals() {
        SnapHeaps x = on();
        x.play(3);
        Check.noNumber(x, "undo(0)", () -> x.undo(0));
        Check.noNumber(x, "undo(1000)", () -> x.undo(1000));
        Check.noNumber(x, "undo(-1)", () -> x.undo(-1));
        Check.due("nothing was done", 3, x.count(3));
        Check.due("999 is fine", 3, x.undo(999));
    }
}
