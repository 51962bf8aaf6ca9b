/** Promises 3 and 8 to 14: a TABLE, its FAULTS, and what can be asked of it. */
public final class TableTest {
    private static final String TWO = "player 1 2 3 0;player 4 5 6 1;";

    public static void main(String[] args) {
        aTable();
        clauses();
        blanks();
        whatATableTakesAway();
        cantStandThere();
        numbersThatAreNone();
        tooMany();
        tooFew();
        theLeastOfOneByte();
        aFaultChangesNothing();
        refusals();
        tops();
        Check.end("TableTest");
    }

    private static void aTable() {
        SnapHeaps x = new SnapHeaps();
        Check.due("three players", 3, Texts.table(x, "player 9 60 9 2; player 1 0 0 0; player 5 7 3 1;"
            + "row 0 abo; row 2 c; row 0 d; pace 1 9; pace 1 2; open 0 2; false 1; tie 2; pool 1; moment 3; moment 0;"));
        Check.row("told", Ask.tolds(x), 3, 5, 0, 0, 0, 1, 2, 1, 2);
        Check.row("player 0", Ask.men(x, 0), 9, 60, 9, 2, 5, 4, 0, 0);
        Check.row("player 1 is OUT", Ask.men(x, 1), 1, 0, 0, 0, 2, 0, 0, 1);
        Check.row("player 2", Ask.men(x, 2), 5, 7, 3, 1, 5, 1, 0, 0);
        int[] kinds = {0, 1, 14, 3, -1};
        int[] open = {1, 1, 0, 0, -1};
        for (int i = 0; i < 5; i++) {
            Check.due("row " + i, kinds[i], x.row(0, i));
            Check.due("lain " + i, open[i], x.lain(0, i));
        }
        Check.due("row -1", -1, x.row(0, -1));
        Check.due("lain -1", -1, x.lain(0, -1));
        Check.due("row, far", -1, x.row(0, 1000000));
        Check.due("heap, none yet", -1, x.heap(0, 0));
        Check.due("pool, none", -1, x.pool(0));
        Check.due("alike, no tops", -1, x.alike());
        x.play(3);
        Check.due("heap", 0, x.heap(0, 0));
        Check.due("heap, its second", 1, x.heap(0, 1));
        Check.due("heap, no third", -1, x.heap(0, 2));
        Check.due("heap -1", -1, x.heap(0, -1));
        Check.due("player 2's heap", 2, x.heap(2, 0));
        Check.due("cards of the heap", 2, x.player(0, 6));
        Check.due("whose it is: 2, for 1 is OUT", 2, x.told(3));
    }

    private static void clauses() {
        SnapHeaps x = new SnapHeaps();
        Check.due("the last LAW counts", 2, Texts.table(x, TWO + "tie 1;tie 0;pool 2;pool 1;false 2;false 2;"));
        Check.due("tie", 0, x.told(6));
        Check.due("pool", 1, x.told(7));
        Check.due("false", 2, x.told(5));
        Texts.table(x, TWO + "row 0 abc;open 0 2;open 0 1;row 0 d;");
        Check.due("what was open stays so", 1, x.lain(0, 1));
        Check.due("the third was not", 0, x.lain(0, 2));
        Check.due("nor what came behind", 0, x.lain(0, 3));
        Texts.table(x, TWO + "row 1 a;open 1 0;open 1 1;");
        Check.due("all of it", 1, x.lain(1, 0));
        Check.due("60 cards", 2, Texts.table(x, TWO + "row 0 " + "abcdefghijklmno".repeat(4) + ";"));
        Check.due("all are there", 60, x.told(1));
        Check.due("the last", 14, x.row(0, 59));
        Check.due("40 clauses", 2, Texts.table(x, TWO + "moment 1;".repeat(12) + "tie 1;".repeat(26)));
        Check.due("12 moments", 12, x.told(8));
    }

    private static void blanks() {
        SnapHeaps x = new SnapHeaps();
        Check.due("none at all", 2, Texts.table(x, "player1 2 3 0;player4 5 6 1;row0abc;open0 1;pace1 4;"));
        Check.due("a row", 2, x.row(0, 2));
        Check.due("a pace", 4, x.player(1, 4));
        Check.due("many", 2, Texts.table(x, "  player  1 2  3 0 ;  player 4 5 6 1 ; row  1   no ;   "));
        Check.due("a row", 13, x.row(1, 0));
        Check.due("zeros ahead", 2, Texts.table(x, "player 0001 00 3 0;player 4 5 6 1;"));
        fault(x, TWO + "row 0 a b;", 1, 38);
        fault(x, TWO + "\trow 0 a;", 1, 30);
        fault(x, TWO + "row 0 ab\n;", 1, 38);
    }

    private static void fault(SnapHeaps x, String text, int number, int at) {
        String told = text.length() > 60 ? ".." + text.substring(text.length() - 40) : text;
        Check.due("\"" + told + "\"", number - 10, Texts.table(x, text));
        Check.due("place of \"" + told + "\"", at, x.fault());
    }

    private static void whatATableTakesAway() {
        SnapHeaps x = new SnapHeaps();
        Texts.table(x, TWO + "row 0 ab;row 1 ac;pool 2;");
        Texts.plan(x, 0, "not alike");
        Texts.guess(x, 1, "not alike");
        Texts.book(x, "0 1;");
        x.draws(77);
        x.play(2);
        x.image();
        Texts.feed(x, TWO + "row 0 aa;row 1 aa;");
        Check.due("bytes beyond n go, too", 2, x.table(39));
        Check.due("no bytes", 0, x.count(1));
        Check.due("no images", 0, x.count(0));
        Check.due("no book", 0, x.count(2));
        Check.due("no turns to undo", 0, x.count(3));
        Check.due("turn 0", 0, x.told(2));
        Check.due("laws of the new one", 0, x.told(7));
        Check.due("no latest", -1, x.latest(0));
        Check.holds("the plan is the first one", !x.would(0, 0));
        Check.holds("no guess", !x.would(1, 1));
        Check.due("no calls", 0, x.calls(1, 3));
        Check.due("nothing won", 0, x.won(1));
        Check.due("not drawn", 0, x.still());
        Check.due("no image to restore", -1, x.restore());
    }

    private static void cantStandThere() {
        SnapHeaps x = new SnapHeaps();
        fault(x, "players 1 1 1 0;", 1, 0);
        fault(x, " Player 1 1 1 0;", 1, 1);
        fault(x, "playerrow", 1, 0);
        fault(x, TWO + ";", 1, 30);
        fault(x, TWO + "row 0 abp;", 1, 38);
        fault(x, TWO + "row 0 pab;", 1, 36);
        fault(x, TWO + "row 0 ;", 1, 36);
        fault(x, TWO + "row 0 Ab;", 1, 36);
        fault(x, TWO + "row 0 a;row a;", 1, 42);
        fault(x, TWO + "tie -1;", 1, 34);
        fault(x, TWO + "tie 1", 1, 35);
        fault(x, TWO + "tie 1  ", 1, 37);
        fault(x, TWO + "tie ", 1, 34);
        fault(x, TWO + "row 0", 1, 35);
        fault(x, TWO + "pace 0 1 2;", 1, 39);
        fault(x, "player 1 1 1;", 1, 12);
        fault(x, "player", 1, 6);
        fault(x, "open 0 1;", 2, 5);
        fault(x, TWO + "tie 1,", 1, 35);
    }

    private static void numbersThatAreNone() {
        SnapHeaps x = new SnapHeaps();
        fault(x, "player 0 1 1 0;", 2, 7);
        fault(x, "player 10 1 1 0;", 2, 7);
        fault(x, "player 1 61 1 0;", 2, 9);
        fault(x, "player 1 1 10 0;", 2, 11);
        fault(x, "player 1 1 1 3;", 2, 13);
        fault(x, "player 1 1 1 99999999999999999999999;", 2, 13);
        fault(x, "player 4294967297 1 1 0;", 2, 7);
        fault(x, "row 0 a;", 2, 4);
        fault(x, TWO + "row 2 a;", 2, 34);
        fault(x, TWO + "pace 0 0;", 2, 37);
        fault(x, TWO + "pace 0 10;", 2, 37);
        fault(x, TWO + "pace 3 1;", 2, 35);
        fault(x, TWO + "false 3;", 2, 36);
        fault(x, TWO + "tie 3;", 2, 34);
        fault(x, TWO + "pool 3;", 2, 35);
        fault(x, TWO + "moment 10;", 2, 37);
        fault(x, TWO + "row 0 ab;open 0 3;", 2, 46);
        fault(x, TWO + "open 0 1;", 2, 37);
        fault(x, TWO + "open 2 0;", 2, 35);
    }

    private static void tooMany() {
        SnapHeaps x = new SnapHeaps();
        fault(x, TWO + TWO, 3, 45);
        fault(x, TWO + "moment 1;".repeat(12) + " moment 1;", 3, 139);
        fault(x, TWO + "tie 1;".repeat(38) + "tie 1;", 3, 258);
        String full = TWO + "row 0 a;" + "tie 1;".repeat(37);
        String[] more = {"tie 1;", "row 0 b;", "pace 0 1;", "open 0 1;", "false 1;", "pool 1;", "moment 1;",
            "player 1 1 1 1;"};
        for (String one : more) {
            Check.due("40 clauses", one.startsWith("player") ? 3 : 2, Texts.table(x, full.replaceFirst("tie 1;", one)));
            fault(x, full + one, 3, 260);
            fault(x, full + "  " + one.substring(0, one.indexOf(' ')), 3, 262);
        }
        fault(x, TWO + "row 0 " + "abcde".repeat(12) + "f;", 3, 96);
        fault(x, TWO + "row 0 " + "abcde".repeat(11) + ";row 1 abcdef;", 3, 103);
    }

    private static void tooFew() {
        SnapHeaps x = new SnapHeaps();
        fault(x, "", 4, 0);
        fault(x, "   ", 4, 3);
        fault(x, "player 1 1 1 0;", 4, 15);
        fault(x, "player 1 1 1 0; ", 4, 16);
        fault(x, "tie 1;", 4, 6);
        fault(x, "player 1 1 1 0", 1, 14);
    }

    private static void theLeastOfOneByte() {
        SnapHeaps x = new SnapHeaps();
        fault(x, TWO + "row 0 " + "abcde".repeat(12) + "p;", 1, 96);
        fault(x, TWO + "tie 1;".repeat(38) + "tied 1;", 1, 258);
    }

    private static void aFaultChangesNothing() {
        SnapHeaps x = new SnapHeaps();
        Texts.table(x, TWO + "row 0 abc;row 1 bbb;moment 4;tie 2;");
        Texts.plan(x, 0, "not alike");
        Texts.book(x, "0 0;");
        x.draws(5);
        x.image();
        x.play(2);
        Texts.feed(x, "player 9 9 9 2;player 9 9 9 2;row 0 o;tie 1;moment 1;moment 2;x");
        Check.due("a fault at its end", -9, x.table(63));
        Check.due("the tape is empty", 0, x.count(1));
        Check.row("told", Ask.tolds(x), 2, 6, 2, 0, 0, 0, 2, 0, 1);
        Check.row("player 0", Ask.men(x, 0), 1, 2, 3, 0, 5, 2, 1, 0);
        Check.due("turns that can be undone", 2, x.count(3));
        Check.due("images", 1, x.count(0));
        Check.due("lines", 1, x.count(2));
        Check.due("drawn", 1, x.still());
    }

    private static void refusals() {
        SnapHeaps x = new SnapHeaps();
        Texts.feed(x, TWO);
        Check.noNumber(x, "table(41)", () -> x.table(41));
        Check.noNumber(x, "table(-1)", () -> x.table(-1));
        Check.due("the tape stays", 40, x.count(1));
        Check.due("all of it", 2, readAll(x));
        Check.noNumber(x, "told(-1)", () -> x.told(-1));
        Check.noNumber(x, "told(9)", () -> x.told(9));
        Check.noNumber(x, "player(0, 8)", () -> x.player(0, 8));
        Check.noNumber(x, "player(0, -1)", () -> x.player(0, -1));
        Check.noPlayer(x, "player(2, 0)", () -> x.player(2, 0));
        Check.noPlayer(x, "player(-1, 8)", () -> x.player(-1, 8));
        Check.noPlayer(x, "row(2, 0)", () -> x.row(2, 0));
        Check.noPlayer(x, "row(-1, 0)", () -> x.row(-1, 0));
        Check.noPlayer(x, "heap(2, 0)", () -> x.heap(2, 0));
        Check.noPlayer(x, "lain(2, 0)", () -> x.lain(2, 0));
    }

    private static int readAll(SnapHeaps x) {
        return x.table(30);
    }

    private static void tops() {
        SnapHeaps x = new SnapHeaps();
        Texts.table(x, "player 1 1 9 0;player 1 1 9 0;player 1 1 9 0;row 0 abac;row 1 bbaa;row 2 abca;");
        x.play(2);
        Check.due("a, b", -1, x.alike());
        x.play(1);
        Check.due("a, b, a", 2, x.alike());
        x.play(1);
        Check.due("b, b, a", 1, x.alike());
        x.play(2);
        Check.due("b, b, b: the least two", 1, x.alike());
        x.play(3);
        Check.due("a, a, c", 1, x.alike());
        x.play(1);
        Check.due("c, a, c", 2, x.alike());
        x.play(2);
        Check.due("c, a, a", 12, x.alike());
    }
}
