/** Promises 4, 5 and 15: PLANS, GUESSES, their FAULTS, and whether they hold. */
public final class PlanTest {
    public static void main(String[] args) {
        forms();
        faults();
        openAtOneTime();
        lengths();
        refusals();
        factsOfTops();
        factsOfMemory();
        factsOfSizes();
        factsOfTurns();
        joints();
        plansAndGuessesAreTheirOwn();
        aFaultChangesNothing();
        Check.end("PlanTest");
    }

    private static SnapHeaps two() {
        SnapHeaps x = new SnapHeaps();
        Texts.table(x, "player 5 1 0 0;player 5 0 0 1;row 0 ab;row 1 ab;");
        return x;
    }

    private static void forms() {
        SnapHeaps x = two();
        String[] good = {"alike", " alike ", "mine", "know", "top a", "top o", "near c", "heap<0", "heap>60", "heap<60", "row<60", "row>60", "pool>60",
            "heap  <  3", "row<3", "row > 3", "pool>0", "turn 1 0", "turn 60 59", "turn3 1", "not alike",
            "not not mine", "[alike]", " [ alike ] ", "alike or mine", "alike and mine or know and top b",
            "heap<3and mine", "[alike]or[mine]", "not[alike]", "turn 00000000000000000000060 000000000000059",
            "top a and near b", "[alike or mine] and not [know]"};
        for (String text : good) {
            Check.due("plan \"" + text + "\"", 1, Texts.plan(x, 0, text));
            Check.due("its fault", -1, x.fault());
            Check.due("guess \"" + text + "\"", 1, Texts.guess(x, 1, text));
            Check.due("the tape is empty", 0, x.count(1));
        }
    }

    private static void fault(SnapHeaps x, String text, int number, int at) {
        Check.due("plan \"" + text + "\"", number - 10, Texts.plan(x, 1, text));
        Check.due("place in \"" + text + "\"", at, x.fault());
        Check.due("no bytes", 0, x.count(1));
        Check.due("guess \"" + text + "\"", number - 10, Texts.guess(x, 0, text));
        Check.due("place in guess \"" + text + "\"", at, x.fault());
    }

    private static void faults() {
        SnapHeaps x = two();
        String[] cant = {"0:", "3:   ", "6:alike mine", "9:alike and", "0:and", "6:[alike", "5:alike]", "1:[]",
            "3:top", "4:top p", "4:top ab", "4:top A", "4:top 1", "0:topa", "6:top a b", "4:near", "5:near pa",
            "5:heap 3", "5:heap = 3", "5:pool < 3", "5:heap<", "5:heap<-1", "4:heap", "6:turn 5", "4:turn",
            "0:alikes", "0:alikez", "0:alikea", "0:notalike", "3:not", "0:Alike", "5:alike;", "9:alike or or", "5:know andalike",
            "6:alike \talike", "5:alike\n", "8:row > 3 4", "8:alike or", "7:mine or]", "7:[alike alike]"};
        for (String row : cant) {
            int colon = row.indexOf(':');
            int at = Integer.parseInt(row.substring(0, colon));
            String text = row.substring(colon + 1);
            fault(x, text, 1, at);
        }
        fault(x, "heap<61", 2, 5);
        fault(x, "heap > 100", 2, 7);
        fault(x, "row<61", 2, 4);
        fault(x, "pool>61", 2, 5);
        fault(x, "turn 0 0", 2, 5);
        fault(x, "turn 61 0", 2, 5);
        fault(x, "turn 5 5", 2, 7);
        fault(x, "turn 1 1", 2, 7);
        fault(x, "turn 99999999999 1", 2, 5);
        fault(x, "turn 61 p", 2, 5);
        fault(x, "heap<4294967299", 2, 5);
    }

    private static void openAtOneTime() {
        SnapHeaps x = two();
        Check.due("six [", 1, Texts.plan(x, 0, "[[[[[[alike]]]]]]"));
        fault(x, "[[[[[[[alike]]]]]]]", 3, 6);
        Check.due("six not", 1, Texts.plan(x, 0, "not not not not not not alike"));
        fault(x, "not not not not not not not alike", 3, 24);
        Check.due("six of both", 1, Texts.plan(x, 0, "not [not [not [alike]]]"));
        fault(x, "not [not [not [ not alike]]]", 3, 16);
        fault(x, "not [not [not [ [alike]]]]", 3, 16);
        Check.due("a not ends with its B", 1,
            Texts.plan(x, 0, "[[[[[not alike and not alike or not alike and not mine]]]]] and not [not mine]"));
        Check.due("a [ ends with its ]", 1, Texts.plan(x, 0, "[[[[[[alike] and [mine]] or [know]]]]]"));
        fault(x, "[[[[[[alike and not mine]]]]]]", 3, 16);
        fault(x, "[[[[[[top p]]]]]]", 1, 10);
        fault(x, "[[[[[[nota", 1, 6);
    }

    private static void lengths() {
        SnapHeaps x = two();
        StringBuilder t = new StringBuilder("not mine");
        while (t.length() < 150) {
            t.append(' ');
        }
        Check.due("150 bytes", 1, Texts.plan(x, 0, t.toString()));
        Check.due("150 bytes", 1, Texts.guess(x, 0, t.toString()));
        Texts.feed(x, t + "          ");
        Check.noNumber(x, "plan of 151", () -> x.plan(0, 151));
        Check.noNumber(x, "guess of 151", () -> x.guess(0, 151));
        Check.due("the tape stays", 160, x.count(1));
        Check.due("its first 8", 1, x.plan(0, 8));
        Check.due("the others are gone", 0, x.count(1));
        Check.due("many facts", 1, Texts.plan(x, 0, "row<9" + " or row<0".repeat(16)));
        Check.holds("the first of them holds", x.would(0, 0));
    }

    private static void refusals() {
        SnapHeaps x = two();
        Texts.feed(x, "alike");
        Check.noPlayer(x, "plan(2, 5)", () -> x.plan(2, 5));
        Check.noPlayer(x, "plan(-1, 500)", () -> x.plan(-1, 500));
        Check.noPlayer(x, "guess(2, 5)", () -> x.guess(2, 5));
        Check.noPlayer(x, "guess(3, -1)", () -> x.guess(3, -1));
        Check.noNumber(x, "plan(0, 21)", () -> x.plan(0, 21));
        Check.noNumber(x, "plan(0, -1)", () -> x.plan(0, -1));
        Check.noNumber(x, "guess(1, 21)", () -> x.guess(1, 21));
        Check.due("the tape stays", 20, x.count(1));
        Check.due("zeros can't stand there", -9, x.plan(0, 20));
        Check.due("at the first", 5, x.fault());
        Check.noPlayer(x, "would(2, 0)", () -> x.would(2, 0));
        Check.noPlayer(x, "would(-1, 2)", () -> x.would(-1, 2));
        Check.noNumber(x, "would(0, 2)", () -> x.would(0, 2));
        Check.noNumber(x, "would(0, -1)", () -> x.would(0, -1));
    }

    /** Whether a PLAN and a GUESS of that text hold now. */
    private static void now(SnapHeaps x, int player, String text, boolean want) {
        Check.due("plan \"" + text + "\"", 1, Texts.plan(x, player, text));
        Check.due("guess \"" + text + "\"", 1, Texts.guess(x, player, text));
        Check.due("holds \"" + text + "\" for " + player, want ? 1 : 0, x.would(player, 0) ? 1 : 0);
        Check.due("guessed \"" + text + "\" for " + player, want ? 1 : 0, x.would(player, 1) ? 1 : 0);
    }

    /** Nobody calls any more. */
    private static void quiet(SnapHeaps x) {
        for (int p = 0; p < x.told(0); p++) {
            Texts.plan(x, p, "row<0");
            Texts.guess(x, p, "row<0");
        }
    }

    private static void factsOfTops() {
        SnapHeaps x = new SnapHeaps();
        Texts.table(x, "player 1 0 9 0;player 1 0 9 0;player 1 0 9 0;row 0 ac;row 1 bd;row 2 be;");
        now(x, 0, "alike", false);
        now(x, 0, "mine", false);
        now(x, 0, "top a", false);
        quiet(x);
        x.play(3);
        now(x, 0, "alike", true);
        now(x, 0, "mine", false);
        now(x, 1, "mine", true);
        now(x, 2, "mine", true);
        now(x, 0, "top a", true);
        now(x, 0, "top b", false);
        now(x, 1, "top b", true);
        now(x, 2, "alike", true);
        quiet(x);
        x.play(2);
        now(x, 2, "alike", false);
        now(x, 2, "mine", false);
        Texts.table(x, "player 1 0 9 0;player 1 0 9 0;player 1 0 9 0;row 0 a;row 1 b;row 2 a;");
        x.play(3);
        now(x, 0, "mine", true);
        now(x, 1, "mine", false);
        now(x, 2, "mine", true);
    }

    private static void factsOfMemory() {
        SnapHeaps x = new SnapHeaps();
        Texts.table(x, "player 1 1 9 0;player 1 0 9 0;row 0 ab;row 1 ab;open 0 1;open 1 1;");
        now(x, 0, "near a", true);
        now(x, 0, "near b", false);
        now(x, 1, "near a", false);
        now(x, 0, "know", false);
        quiet(x);
        x.play(1);
        now(x, 0, "near b", false);
        now(x, 0, "know", true);
        now(x, 1, "know", false);
        Texts.table(x, "player 1 60 9 0;player 1 60 9 0;row 0 a;row 1 a;");
        x.play(1);
        now(x, 0, "know", false);
        now(x, 1, "near a", false);
        Texts.table(x, "player 1 60 9 0;player 1 60 9 0;player 1 60 9 0;row 0 ab;row 1 cd;row 2 ce;open 0 2;");
        x.play(2);
        now(x, 0, "know", false);
        quiet(x);
        x.play(1);
        now(x, 0, "know", true);
        now(x, 2, "know", true);
    }

    private static void factsOfSizes() {
        SnapHeaps x = new SnapHeaps();
        Texts.table(x, "player 1 1 9 0;player 1 1 9 0;row 0 abcd;row 1 efgh;false 1;");
        x.play(2);
        now(x, 0, "heap<1", false);
        now(x, 0, "heap<2", true);
        now(x, 0, "heap>1", false);
        now(x, 0, "heap>0", true);
        now(x, 0, "row<3", false);
        now(x, 0, "row<4", true);
        now(x, 0, "row>3", false);
        now(x, 0, "row>2", true);
        now(x, 0, "pool>0", false);
        quiet(x);
        Texts.guess(x, 1, "turn 1 0");
        x.play(1);
        now(x, 0, "pool>0", true);
        now(x, 0, "pool>1", false);
        now(x, 1, "row<3", true);
    }

    private static void factsOfTurns() {
        SnapHeaps x = two();
        Texts.plan(x, 1, "top o");
        for (int t = 0; t < 4; t++) {
            now(x, 0, "turn 3 0", t == 0 || t == 3);
            now(x, 0, "turn 3 1", t == 1);
            now(x, 0, "turn 60 2", t == 2);
            now(x, 0, "turn 1 0", true);
            quiet(x);
            x.play(1);
        }
    }

    private static void joints() {
        SnapHeaps x = two();
        String yes = "row>0";
        String no = "row<0";
        now(x, 0, yes + " or " + yes + " and " + no, true);
        now(x, 0, no + " and " + yes + " or " + yes, true);
        now(x, 0, "[" + yes + " or " + yes + "] and " + no, false);
        now(x, 0, "not " + yes + " or " + yes, true);
        now(x, 0, "not " + no + " and " + no, false);
        now(x, 0, "not [" + yes + " or " + yes + "]", false);
        now(x, 0, "not [" + no + " and " + yes + "]", true);
        now(x, 0, "not not " + yes, true);
        now(x, 0, no + " or " + no + " or " + yes, true);
        now(x, 0, yes + " and " + yes + " and " + no, false);
        now(x, 0, no + " or [" + yes + " and not [" + no + " or " + no + "]]", true);
    }

    private static void plansAndGuessesAreTheirOwn() {
        SnapHeaps x = two();
        Check.holds("nobody has a guess at first", !x.would(0, 1));
        Check.holds("alike at first", !x.would(0, 0));
        Texts.plan(x, 0, "row>0");
        Check.holds("his plan", x.would(0, 0));
        Check.holds("not his guess", !x.would(0, 1));
        Check.holds("nor the other's plan", !x.would(1, 0));
        Texts.guess(x, 1, "row>0");
        Check.holds("the other's guess", x.would(1, 1));
        Check.holds("not the other's plan", !x.would(1, 0));
        Texts.guess(x, 1, "row<0");
        Check.holds("the last one is it", !x.would(1, 1));
    }

    private static void aFaultChangesNothing() {
        SnapHeaps x = two();
        Texts.plan(x, 0, "row>0");
        x.play(2);
        Check.due("a fault", -9, Texts.plan(x, 0, "row<0 x"));
        Check.holds("the plan stays", x.would(0, 0));
        Check.due("turns can be undone as before", 2, x.count(3));
        Check.due("a fault", -9, Texts.guess(x, 0, "row>0 x"));
        Check.holds("no guess yet", !x.would(0, 1));
        Check.due("turns can be undone as before", 2, x.count(3));
    }
}
