/** Promises 1, 2, 7, 41 and 42: a new object, the TAPE, refusals, counts. */
public final class TapeTest {
    public static void main(String[] args) {
        aNewObject();
        feeding();
        feedingToTheEnd();
        faultOfTheLatestText();
        refusals();
        counts();
        Check.end("TapeTest");
    }

    private static void aNewObject() {
        SnapHeaps x = new SnapHeaps();
        Check.due("NONE", -1, SnapHeaps.NONE);
        Check.row("new, told", Ask.tolds(x), 0, 0, 0, -1, 0, 0, 0, 0, 0);
        Check.due("new, alike", -1, x.alike());
        Check.due("new, pool", -1, x.pool(0));
        Check.due("new, fault", -1, x.fault());
        Check.due("new, right", 0, x.right());
        Check.due("new, entry", -1, x.entry(0, 0));
        Check.due("new, play", 0, x.play(5));
        Check.due("new, undo", 0, x.undo(5));
        Check.due("new, latest", -1, x.latest(2));
        Check.due("new, where", -1, x.where(0));
        Check.due("new, over", 1, x.ends(2));
        Check.due("new, left", -1, x.ends(0));
        Check.due("new, length", 0, x.ends(1));
        Check.due("new, lot", 0, x.lot(1, 20, 5));
        Check.due("new, laws", -1, x.laws(4, 0));
        Check.due("new, rests: never against never", 1, x.rests(3, 0));
        Check.due("new, restore", -1, x.restore());
        Check.due("new, still", 0, x.still());
        Check.noPlayer(x, "new, player", () -> x.player(0, 0));
        Check.noPlayer(x, "new, odds", () -> x.odds(0, 0, 0));
    }

    private static void feeding() {
        SnapHeaps x = new SnapHeaps();
        // "player 1 1 1 0;playe" and "r 1 2 3 0;row 1 ab; "
        Check.due("the first twenty", 20, x.feed(0x706c6179, 0x65722031, 0x20312031, 0x20303b70, 0x6c617965));
        Check.due("twenty more", 40, x.feed(0x72203120, 0x32203320, 0x303b726f, 0x77203120, 0x61623b20));
        Check.due("bytes of the tape", 40, x.count(1));
        Check.due("the highest byte comes first", 2, x.table(40));
        Check.due("M of 1", 2, x.player(1, 1));
        Check.due("the second card", 1, x.row(1, 1));
        Check.due("the tape is empty", 0, x.count(1));
        // bytes above 127 are bytes as others are, and no part of a text
        Check.due("high bytes", 20, x.feed(-1, -1, -1, -1, -1));
        Check.due("they can't stand there", -9, x.table(20));
        Check.due("the first of them", 0, x.fault());
    }

    private static void feedingToTheEnd() {
        SnapHeaps x = new SnapHeaps();
        for (int i = 1; i <= 30; i++) {
            Check.due("feed " + i, 20 * i, x.feed(0x20202020, 0x20202020, 0x20202020, 0x20202020, 0x20202020));
        }
        Check.due("more than 600", -1, x.feed(0x61616161, 0, 0, 0, 0));
        Check.due("did nothing", 600, x.count(1));
        Check.due("600 blanks: fewer than two players, at the length", -6, x.table(600));
        Check.due("at 600", 600, x.fault());
        Check.due("room again", 20, x.feed(0, 0, 0, 0, 0));
    }

    private static void faultOfTheLatestText() {
        SnapHeaps x = new SnapHeaps();
        Check.due("a fault", -9, Texts.table(x, "player 1 1 1 0; nobody"));
        Check.due("its place", 16, x.fault());
        Check.noNumber(x, "no text: too many bytes", () -> x.table(1));
        Check.due("a refused call is no text", 16, x.fault());
        Check.due("a good one", 2, Texts.table(x, "player 1 1 1 0;player 1 1 1 0;"));
        Check.due("no fault", -1, x.fault());
        Check.due("a plan with one", -9, Texts.plan(x, 1, "alike or"));
        Check.due("at the length", 8, x.fault());
        Check.due("a guess with one", -8, Texts.guess(x, 1, " turn 61 0"));
        Check.due("at the number", 6, x.fault());
        Check.due("a book with one", -9, Texts.book(x, "1 0;2 1."));
        Check.due("at the sign", 7, x.fault());
        Check.due("a good book", 1, Texts.book(x, "1 0;"));
        Check.due("no fault then", -1, x.fault());
    }

    private static void refusals() {
        SnapHeaps x = new SnapHeaps();
        Check.due("none yet", 0, x.status(0));
        Check.due("none of the other", 0, x.status(1));
        Check.due("no such reason", -1, x.status(2));
        Check.due("nor this", -1, x.status(-1));
        Check.noPlayer(x, "no player, ahead of the number", () -> x.calls(0, 9));
        Check.noPlayer(x, "no player, ahead of n", () -> x.plan(3, 700));
        Check.noNumber(x, "a number", () -> x.told(9));
        Check.noNumber(x, "another", () -> x.law(0, 3));
        Texts.table(x, "nonsense");
        Check.due("a fault is no refusal", 2, x.status(1));
        Texts.table(x, "player 1 1 1 0;player 1 1 1 0;");
        x.image();
        Check.noNumber(x, "behind an image", () -> x.play(0));
        x.restore();
        Check.due("no image keeps refusals", 3, x.status(1));
        Check.due("nor these", 2, x.status(0));
        Texts.table(x, "player 1 1 1 0;player 1 1 1 0;");
        Check.due("a table lets them stay", 3, x.status(1));
    }

    private static void counts() {
        SnapHeaps x = new SnapHeaps();
        Texts.table(x, "player 1 1 1 0;player 1 1 1 0;row 0 abc;row 1 def;");
        Texts.book(x, "0 0;1 1;2 0;");
        x.image();
        x.image();
        x.play(4);
        x.feed(0, 0, 0, 0, 0);
        Check.due("images", 2, x.count(0));
        Check.due("bytes", 20, x.count(1));
        Check.due("lines", 3, x.count(2));
        Check.due("turns that can be undone", 4, x.count(3));
        Check.due("no such count", -1, x.count(4));
        Check.due("nor this", -1, x.count(-1));
        x.undo(1);
        Check.due("one less", 3, x.count(3));
    }
}
