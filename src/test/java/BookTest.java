/** Promises 6, 37 and 38: the BOOK, its FAULTS, how much of it is RIGHT, its lines. */
public final class BookTest {
    public static void main(String[] args) {
        lines();
        faults();
        aFaultChangesNothing();
        refusals();
        right();
        rightAndUndone();
        rightAndImages();
        imagesKeepWhoWon();
        lateTurns();
        Check.end("BookTest");
    }

    private static SnapHeaps two() {
        SnapHeaps x = new SnapHeaps();
        Texts.table(x, "player 1 1 0 0;player 1 1 0 1;row 0 abc;row 1 abc;");
        return x;
    }

    private static void lines() {
        SnapHeaps x = two();
        Check.due("of nothing", 0, Texts.book(x, ""));
        Check.due("of blanks", 0, Texts.book(x, "    "));
        Check.due("three lines", 3, Texts.book(x, "0 1; 9999 0 ;0003 01;  "));
        Check.due("lines", 3, x.count(2));
        Check.due("its T", 0, x.entry(0, 0));
        Check.due("its P", 1, x.entry(0, 1));
        Check.due("the second T", 9999, x.entry(1, 0));
        Check.due("the second P", 0, x.entry(1, 1));
        Check.due("the third T", 3, x.entry(2, 0));
        Check.due("none such", -1, x.entry(3, 0));
        Check.due("none such", -1, x.entry(3, 1));
        Check.due("none such", -1, x.entry(-1, 0));
        Check.due("none such", -1, x.entry(1000000000, 1));
        Check.due("twelve", 12, Texts.book(x, "1 0;".repeat(12)));
        Check.due("the twelfth", 1, x.entry(11, 0));
        Check.due("a shorter one", 1, Texts.book(x, "7 1;"));
        Check.due("the old lines are gone", -1, x.entry(1, 0));
        StringBuilder long120 = new StringBuilder("5 1;");
        while (long120.length() < 120) {
            long120.append(' ');
        }
        Check.due("120 bytes", 1, Texts.book(x, long120.toString()));
    }

    private static void fault(SnapHeaps x, String text, int number, int at) {
        Check.due("book \"" + text + "\"", number - 10, Texts.book(x, text));
        Check.due("place in \"" + text + "\"", at, x.fault());
        Check.due("no bytes", 0, x.count(1));
    }

    private static void faults() {
        SnapHeaps x = two();
        fault(x, "a", 1, 0);
        fault(x, "1", 1, 1);
        fault(x, "1 ", 1, 2);
        fault(x, "1 0", 1, 3);
        fault(x, "1 0 0;", 1, 4);
        fault(x, "1 0;;", 1, 4);
        fault(x, ";", 1, 0);
        fault(x, "10;", 1, 2);
        fault(x, "-1 0;", 1, 0);
        fault(x, "10000 0;", 2, 0);
        fault(x, "1 2;", 2, 2);
        fault(x, "1 0; 2 3;", 2, 7);
        fault(x, "1 0;".repeat(12) + " 3 0;", 3, 49);
        fault(x, "1 0;".repeat(12) + "10000 0;", 2, 48);
        fault(x, "1 0;".repeat(12) + "x", 1, 48);
        SnapHeaps none = new SnapHeaps();
        fault(none, "1 0;", 2, 2);
        Check.due("no players, no lines", 0, Texts.book(none, " "));
    }

    private static void aFaultChangesNothing() {
        SnapHeaps x = two();
        x.play(2);
        Check.due("two lines", 2, Texts.book(x, "1 1;4 0;"));
        fault(x, "7 0;8 0;9 0;x", 1, 12);
        Check.due("lines stay", 2, x.count(2));
        Check.due("the first stays", 1, x.entry(0, 0));
        Check.due("a book lets turns be undone", 2, x.count(3));
    }

    private static void refusals() {
        SnapHeaps x = two();
        Texts.feed(x, "1 0;".repeat(31));
        Check.noNumber(x, "book(121)", () -> x.book(121));
        Check.noNumber(x, "book(-1)", () -> x.book(-1));
        Check.due("the tape stays", 140, x.count(1));
        Check.due("only the first n", 2, x.book(8));
        Texts.feed(x, "1 0;");
        Check.noNumber(x, "book(21)", () -> x.book(21));
        Check.noNumber(x, "entry(0, 2)", () -> x.entry(0, 2));
        Check.noNumber(x, "entry(50, -1)", () -> x.entry(50, -1));
    }

    /** In TURN 1 and in TURN 3 player 1 wins, in no other of the first four. */
    private static void right() {
        SnapHeaps x = two();
        Texts.book(x, "1 1;3 1;");
        Check.due("no turn has gone by", 0, x.right());
        x.play(1);
        Check.due("nor the one of the line", 0, x.right());
        x.play(1);
        Check.due("the first", 1, x.right());
        x.play(1);
        Check.due("still the first", 1, x.right());
        x.play(1);
        Check.due("both", 2, x.right());
        Texts.book(x, "3 1;1 1;3 1;");
        Check.due("in any order, more than once", 3, x.right());
        Texts.book(x, "1 1;3 0;1 1;");
        Check.due("another one won", 1, x.right());
        Texts.book(x, "1 1;2 1;1 1;");
        Check.due("nobody won", 1, x.right());
        Texts.book(x, "0 0;1 1;");
        Check.due("nobody won in 0", 0, x.right());
        Texts.book(x, "");
        Check.due("no lines", 0, x.right());
        Texts.book(x, "1 1;3 1;");
        x.law(1, 1);
        x.shuffle(3);
        Check.due("what went by stays, whatever can't be undone", 2, x.right());
    }

    private static void rightAndUndone() {
        SnapHeaps x = two();
        Texts.book(x, "1 1;3 1;");
        x.play(4);
        x.undo(1);
        Check.due("undone is not gone by", 1, x.right());
        x.undo(2);
        Check.due("undone", 0, x.right());
        Texts.guess(x, 0, "turn 60 1");
        x.play(1);
        Check.due("now the other one wins", 0, x.right());
        Texts.book(x, "1 0;");
        Check.due("as this tells", 1, x.right());
    }

    private static void rightAndImages() {
        SnapHeaps x = two();
        x.play(2);
        x.image();
        Texts.book(x, "1 1;3 1;");
        x.play(2);
        Check.due("both", 2, x.right());
        x.restore();
        Check.due("the book stays", 2, x.count(2));
        Check.due("the second has not gone by", 1, x.right());
        x.play(2);
        Check.due("again", 2, x.right());
    }

    private static void imagesKeepWhoWon() {
        SnapHeaps x = two();
        x.play(2);
        x.image();
        x.undo(1);
        Texts.guess(x, 0, "turn 60 1");
        x.play(1);
        Texts.book(x, "1 0;");
        Check.due("now 0 has won", 1, x.right());
        x.restore();
        Check.due("in the image he had not", 0, x.right());
        Texts.book(x, "1 1;");
        Check.due("but 1", 1, x.right());
    }

    private static void lateTurns() {
        SnapHeaps x = new SnapHeaps();
        Texts.table(x, "player 1 1 0 0;player 1 1 0 1;row 0 ab;row 1 cd;pool 2;");
        for (int i = 0; i < 10; i++) {
            x.play(999);
        }
        Check.due("so many", 9990, x.told(2));
        Texts.book(x, "9999 0;");
        x.play(10);
        Check.due("nobody won in the last of a book's turns", 0, x.right());
        Texts.table(x, "player 1 1 0 0;player 1 1 9 1;row 0 ab;row 1 ab;");
        Texts.plan(x, 0, "alike and turn 60 39 and turn 59 28 and turn 7 3");
        for (int i = 0; i < 10; i++) {
            x.play(999);
        }
        Texts.book(x, "9999 0;9999 0;9998 0;");
        x.play(9);
        Check.due("not yet", 0, x.right());
        x.play(1);
        Check.due("the last turn that a book can tell of", 2, x.right());
        Check.due("five undone", 5, x.undo(5));
        Check.due("undone", 0, x.right());
        x.play(4);
        Check.due("not yet again", 0, x.right());
        x.play(1);
        Check.due("again", 2, x.right());
    }
}
