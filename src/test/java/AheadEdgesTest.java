/** The edges of what is ahead (promises 24 to 36): none, the last of all, the least and the greatest that can come out. */
public final class AheadEdgesTest {
    private static final String TWO = "player 1 0 9 0;player 1 0 9 1;";

    public static void main(String[] args) {
        overAtOnce();
        overAtTheLast();
        roundAtTheLast();
        roundByTurns();
        roundByWhatHasLain();
        whereOfSixty();
        whereWithCalls();
        chanceOfNone();
        chanceOfTops();
        chanceWithoutHisOwnTop();
        chanceOfSixty();
        chanceOfMemory();
        lines();
        worths();
        moments();
        restsOfAll();
        rememberTheTwelfth();
        rememberAtMost();
        rememberAll();
        rememberThree();
        oddsOfNone();
        oddsTheTwelfth();
        oddsOfTwelve();
        oddsOfOneOut();
        shuffledSizes();
        lotWraps();
        films();
        lawsOfNine();
        oddsByPoolLaw();
        roundBehindALargerTable();
        Check.end("AheadEdgesTest");
    }

    private static SnapHeaps on(String table) {
        SnapHeaps x = new SnapHeaps();
        Check.holds("a table: " + table, Texts.table(x, table) >= 2);
        return x;
    }

    private static SnapHeaps quiet(String table) {
        SnapHeaps x = on(table);
        for (int p = 0; p < x.told(0); p++) {
            Texts.plan(x, p, "row<0");
        }
        return x;
    }

    private static void ends(SnapHeaps x, String what, int... want) {
        Check.row(what + ", ends", Ask.ends(x), want);
    }

    /** "The GAME is over": behind no TURN, one, two. */
    private static void overAtOnce() {
        String three = "player 1 1 0 0;player 1 1 0 1;player 1 1 0 2;";
        for (int p = 0; p < 3; p++) {
            ends(on(three + "row " + p + " abc;"), "only " + p, p, 0, 1, 0);
        }
        ends(on(three), "nobody", -1, 0, 1, 0);
        SnapHeaps x = on(TWO + "row 0 ab;row 1 c;false 1;");
        Texts.guess(x, 1, "turn 60 0");
        ends(x, "behind one turn 1 is OUT", 0, 1, 1, 0);
        x = on(TWO + "row 0 ab;row 1 c;false 1;");
        Texts.guess(x, 1, "turn 60 1");
        ends(x, "behind two", 0, 2, 1, 0);
        Check.due("turn 0 all the same", 0, x.told(2));
    }

    /** "or 3,000 TURNS have gone by". */
    private static void overAtTheLast() {
        SnapHeaps x = quiet("player 1 1 0 0;player 1 1 0 1;row 0 a;row 1 b;");
        // 60 and 59 leave so in TURN 2,998 alone; a's owner calls false then, and is OUT behind 2,999 TURNS
        Texts.plan(x, 0, "turn 60 58 and turn 59 48");
        ends(x, "over behind 2,999", 1, 2999, 1, 0);
        Texts.plan(x, 0, "turn 60 59 and turn 59 49");
        ends(x, "over behind 3,000", 1, 3000, 1, 0);
        Texts.plan(x, 0, "turn 60 0 and turn 59 50");
        ends(x, "3,000 have gone by", -1, 3000, 0, 0);
        Check.row("lot", Ask.lot(x, 1, 2), 3000, 3000, 0, 0, 0, 2);
        Check.due("laws, left", -1, x.laws(0, 0));
        Check.due("laws, length", 3000, x.laws(0, 1));
        x.play(1);
        ends(x, "from TURN 1 on it is over behind 3,000", 1, 3000, 1, 0);
        Check.row("lot", Ask.lot(x, 1, 2), 3000, 3000, 0, 2, 0, 0);
        x.play(1);
        ends(x, "from TURN 2 on behind 2,999", 1, 2999, 1, 0);
    }

    private static void roundAtTheLast() {
        SnapHeaps x = quiet(TWO + "row 0 a;row 1 b;");
        Texts.plan(x, 0, "turn 58 0 and row<0");
        Texts.plan(x, 1, "turn 51 0 and row<0");
        // 58 by 51 is 2,958; behind two TURNS all goes round
        ends(x, "round", -1, 2960, 2, 2958);
        Texts.plan(x, 1, "turn 53 0 and row<0");
        ends(x, "58 by 53 is 3,074", -1, 3000, 0, 0);
        SnapHeaps y = quiet(TWO + "row 0 a;row 1 b;");
        Texts.plan(y, 0, "turn 54 0 and row<0");
        Texts.plan(y, 1, "turn 55 0 and row<0");
        ends(y, "54 by 55", -1, 2972, 2, 2970);
        y = quiet(TWO + "row 0 abcdefghijklmn;row 1 bcdefghijklmno;open 0 14;open 1 14;");
        Texts.plan(y, 0, "turn 54 0 and row<0");
        Texts.plan(y, 1, "turn 55 0 and row<0");
        // heaps of 14: behind 28 TURNS the ROWS are empty, from 28 on all goes round by 28; 54 * 55 * 14
        ends(y, "too long", -1, 3000, 0, 0);
    }

    /** "the TURN's number, as far as it leaves the same by all M that stand in PLANS and GUESSES". */
    private static void roundByTurns() {
        String[] plans = {"turn 1 0", "turn 2 0", "turn 3 0", "[turn 4 0 or turn 6 0]", "turn 60 0", "not turn 7 0", "[turn 5 0 or turn 3 0]"};
        int[] periods = {2, 2, 6, 12, 60, 14, 30};
        for (int i = 0; i < plans.length; i++) {
            SnapHeaps x = quiet(TWO + "row 0 a;row 1 b;");
            Texts.plan(x, 1, plans[i] + " and row<0");
            ends(x, "plan " + plans[i], -1, 2 + periods[i], 2, periods[i]);
            x = quiet(TWO + "row 0 a;row 1 b;");
            Texts.guess(x, 0, plans[i] + " and row<0");
            ends(x, "guess " + plans[i], -1, 2 + periods[i], 2, periods[i]);
            Texts.guess(x, 0, "row<0");
            ends(x, "no more", -1, 4, 2, 2);
        }
        SnapHeaps x = quiet("player 1 0 9 0;player 1 0 9 1;player 1 0 9 1;row 0 a;row 1 b;");
        Texts.guess(x, 2, "turn 9 0");
        ends(x, "of one who is OUT, too", -1, 20, 2, 18);
    }

    private static void roundByWhatHasLain() {
        SnapHeaps x = quiet(TWO + "row 0 aa;row 1 bb;");
        ends(x, "behind TURN 3 as behind TURN 7", -1, 8, 2, 4);
        x = quiet(TWO + "row 0 aa;row 1 bb;open 0 2;open 1 2;");
        ends(x, "if all have lain open, from TURN 1 on", -1, 6, 2, 4);
        x = quiet(TWO + "row 0 aa;row 1 bb;open 0 2;open 1 1;");
        ends(x, "if all but one have", -1, 8, 2, 4);
    }

    /** "of the next 60". */
    private static void whereOfSixty() {
        SnapHeaps x = on(TWO + "row 0 a;row 1 a;");
        for (int i = 0; i < 59; i++) {
            Check.due("where " + i, i + 1, x.where(i));
        }
        Check.due("the 60th was the last", -1, x.where(59));
        x = quiet(TWO + "row 0 a;row 1 a;");
        x.play(1);
        for (int i = 0; i < 60; i++) {
            Check.due("from TURN 1 on, " + i, i, x.where(i));
        }
        Check.due("sixty of them", -1, x.where(60));
        // 30 and 30 cards: the last of both are alike, behind TURN 59, and behind TURN 60 no more
        String cards = "abcdefghijklm";
        x = on(TWO + "row 0 " + cards + cards + "abco;row 1 " + "n".repeat(29) + "o;");
        Check.due("the 60th", 59, x.where(0));
        Check.due("one only", -1, x.where(1));
        x = quiet(TWO + "row 0 " + "n".repeat(29) + "a;row 1 " + cards + cards + "abcd;");
        Check.due("none in 60", -1, x.where(0));
        x = on(TWO + "row 0 ab;row 1 cd;");
        Check.due("none for ever", -1, x.where(0));
        Check.due("none", -1, x.where(-1));
        x = on(TWO + "row 0 ab;");
        Check.due("over", -1, x.where(0));
    }

    /** "if nobody calls". */
    private static void whereWithCalls() {
        SnapHeaps x = on("player 1 1 0 0;player 1 1 0 1;row 0 abab;row 1 acac;");
        int[] want = {1, 5, 9, 13};
        Texts.guess(x, 0, "turn 1 0");
        for (int i = 0; i < want.length; i++) {
            Check.due("where " + i, want[i], x.where(i));
        }
    }

    private static void chance(SnapHeaps x, String what, int player, int watcher, int above, int below) {
        Check.due(what + ", above", above, x.chance(player, watcher, 0));
        Check.due(what + ", below", below, x.chance(player, watcher, 1));
    }

    private static void chanceOfNone() {
        SnapHeaps x = quiet("player 1 0 9 0;player 1 0 9 1;player 1 0 9 2;row 0 ab;row 1 ab;");
        chance(x, "no card", 2, 0, 0, 1);
        chance(x, "no top", 0, 1, 0, 1);
        x.play(1);
        chance(x, "his own top is no other one's", 0, 1, 0, 1);
        chance(x, "no card", 2, 0, 0, 1);
        chance(x, "one of two", 1, 0, 1, 2);
        SnapHeaps y = quiet(TWO + "row 0 aa;row 1 b;");
        y.play(1);
        chance(y, "his own top, of his kind", 0, 0, 0, 1);
    }

    /** "how many of them are of the KIND of some other top". */
    private static void chanceOfTops() {
        SnapHeaps x = quiet("player 1 0 9 0;player 1 0 9 1;player 1 0 9 2;row 0 xabcab;row 1 aed;row 2 bfd;".replace('x', 'g'));
        x.play(3);
        chance(x, "two tops: a, b of abcab", 0, 1, 4, 5);
        x = quiet("player 1 0 9 0;player 1 0 9 1;player 1 0 9 2;row 0 gabcab;row 1 aed;row 2 afd;");
        x.play(3);
        chance(x, "two tops of one kind count once", 0, 1, 2, 5);
        x = quiet("player 1 0 9 0;player 1 0 9 1;player 1 0 9 2;row 0 a;row 1 aed;row 2 afd;");
        x.play(3);
        chance(x, "no row: his heap of one", 0, 1, 1, 1);
        x = quiet("player 1 0 9 0;player 1 0 9 1;player 1 0 9 2;row 0 ab;row 1 cbd;row 2 eaf;");
        x.play(5);
        chance(x, "no row: of his heap one of two", 0, 2, 1, 2);
        x.play(1);
        chance(x, "both", 0, 2, 1, 1);
    }

    /** "(of PLAYERS but him)": his cards are of his own top's KIND alone, then one of another one's, too. */
    private static void chanceWithoutHisOwnTop() {
        for (int p = 0; p < 3; p++) {
            SnapHeaps x = quiet("player 1 0 9 0;player 1 0 9 1;player 1 0 9 2;row 0 aaa;row 1 bbb;row 2 ccc;");
            x.play(3);
            chance(x, "his own top alone, " + p, p, 0, 0, 1);
            x = quiet("player 1 0 9 0;player 1 0 9 1;player 1 0 9 2;row 0 aab;row 1 bbc;row 2 cca;");
            x.play(3);
            chance(x, "his own top, another one's, " + p, p, 0, 1, 2);
        }
        for (int p = 0; p < 2; p++) {
            SnapHeaps x = quiet(TWO + "row 0 aab;row 1 bba;");
            x.play(2);
            chance(x, "of two his own top, the other one's, " + p, p, 0, 1, 2);
        }
    }

    private static void chanceOfSixty() {
        SnapHeaps x = quiet(TWO + "row 0 " + "a".repeat(29) + "b".repeat(29) + ";row 1 ac;");
        x.play(2);
        chance(x, "28 of 57", 0, 0, 28, 57);
        x = quiet(TWO + "row 0 c" + "b".repeat(28) + "a".repeat(28) + ";row 1 ac;");
        x.play(2);
        chance(x, "28 of 56 is 1 of 2", 0, 0, 1, 2);
        x = quiet(TWO + "row 0 c" + "a".repeat(57) + ";row 1 ac;");
        x.play(2);
        chance(x, "all is 1 of 1", 0, 0, 1, 1);
        x = quiet(TWO + "row 0 c" + "b".repeat(57) + ";row 1 ac;");
        x.play(2);
        chance(x, "none is 0 of 1", 0, 0, 0, 1);
    }

    /** "but if the watcher remembers that card: 1 or 0". */
    private static void chanceOfMemory() {
        for (int open = 0; open <= 2; open++) {
            SnapHeaps x = quiet("player 1 0 9 0;player 1 1 9 1;player 1 60 9 2;row 0 cabb;row 1 ad;open 0 " + 2 * open + ";");
            x.play(2);
            chance(x, "no memory", 0, 0, 1, 3);
            chance(x, "memory of 1, open " + open, 0, 1, 1, open == 0 ? 3 : 1);
            chance(x, "memory of 60, though OUT, open " + open, 0, 2, 1, open == 0 ? 3 : 1);
            x = quiet("player 1 0 9 0;player 1 1 9 1;row 0 cbaa;row 1 ad;open 0 " + 2 * open + ";");
            x.play(2);
            chance(x, "no memory", 0, 0, 2, 3);
            chance(x, "it is not alike, open " + open, 0, 1, open == 0 ? 2 : 0, open == 0 ? 3 : 1);
        }
    }

    /** LINE: each q from 0 to 16 is the least one for some numbers. */
    private static void lines() {
        SnapHeaps x = new SnapHeaps();
        for (int q = 0; q <= 16; q++) {
            // up times g is 16, ahead is worth q, one less, and a little more than q less one
            Check.due("exactly " + q, q, x.waits(1, 2, 16, 16 - q));
            Check.due("a little less than " + q, q, x.waits(10, 20, 16, 16 - q));
            if (q > 0) {
                Check.due("a little more than " + (q - 1), q, x.waits(2, 4, 32, 32 - 2 * q + 1));
            }
        }
        Check.due("the least worth", 0, x.waits(0, 99, 0, 99));
        Check.due("the greatest", 16, x.waits(99, 99, 99, 0));
        Check.due("nothing at all", 0, x.waits(0, 1, 0, 0));
        Check.due("less than nothing", 0, x.waits(1, 99, 1, 99));
        Check.due("one of one, for one", 16, x.waits(1, 1, 1, 99));
        Check.due("no cost", 16, x.waits(1, 99, 1, 0));
    }

    private static void worths() {
        SnapHeaps x = new SnapHeaps();
        Check.due("the greatest", 9801, x.ahead(99, 99, 99, 0));
        Check.due("the least", -9801, x.ahead(0, 99, 0, 99));
        Check.due("nothing", 0, x.ahead(0, 1, 99, 0));
        Check.due("nothing is left", 99, x.ahead(1, 1, 99, 99));
        Check.due("all is left", -99, x.ahead(0, 1, 99, 99));
        Check.due("even", 0, x.ahead(1, 2, 99, 99));
    }

    private static void moments() {
        SnapHeaps x = on(TWO + "moment 9;".repeat(12));
        for (int one = 0; one <= 12; one++) {
            for (int other = 0; other <= 12; other++) {
                int later = (11 - one) * 9;
                int mine = other < one ? (one - other) * 90 : other == one ? (one + 1) * 45 : (one + 1) * 90;
                int want = one == 12 ? 0 : mine - later * 99;
                Check.due("moments " + one + " " + other, want, x.moments(one, other, 99));
            }
        }
        SnapHeaps y = on(TWO + "moment 9;".repeat(12));
        Check.due("the greatest", 1080, y.moments(11, 12, 99));
        Check.due("the least: 90 less 99 times 99", 90 - 9801, y.moments(0, 12, 99));
        Check.due("both in the first", 45 - 9801, y.moments(0, 0, 99));
        Check.due("no cost", 90, y.moments(0, 1, 0));
    }

    private static void restsOfAll() {
        SnapHeaps x = on(TWO + "moment 0;".repeat(12));
        Check.due("nothing to get: all 13 by 13", 169, x.rests(99, 0));
        Check.due("the first of them", 0, x.rests(99, 1));
        x = on(TWO + "moment 0;".repeat(11) + "moment 9;");
        Check.due("the last alone: both in it, at any cost", 1, x.rests(99, 0));
        Check.due("both in the last", 1111, x.rests(99, 1));
        // at no cost: who calls ahead of it loses nothing, but has nothing either
        Check.due("at no cost, too", 1, x.rests(0, 0));
        x = on(TWO + "moment 9;" + "moment 0;".repeat(11));
        // in the first or later, but not behind the other one: only 0 against 0
        Check.due("the first alone: both in it", 1, x.rests(0, 0));
        Check.due("both in the first", 0, x.rests(0, 1));
        SnapHeaps none = new SnapHeaps();
        Check.due("no moments, no players: never and never", 1, none.rests(0, 0));
        Check.due("100 times 0, and 0", 0, none.rests(99, 1));
    }

    private static void remember(SnapHeaps x, int player, int k, int cards, int bits) {
        Check.due("remember " + player + " " + k + ", cards", cards, x.remember(player, k, 0));
        Check.due("remember " + player + " " + k + ", bits", bits, x.remember(player, k, 1));
    }

    /** "of the next 12 TURNS". */
    private static void rememberTheTwelfth() {
        SnapHeaps x = quiet(TWO + "row 0 abcdefmm;row 1 ghijkfll;");
        remember(x, 0, 0, 2, 0);
        remember(x, 0, 1, 14, 2048);
        remember(x, 1, 4, 14, 2048);
        x = quiet(TWO + "row 0 abcdefgm;row 1 hijklgoo;");
        remember(x, 0, 4, 8, 0);
        x.play(1);
        remember(x, 0, 1, 1 + 13, 2048);
        remember(x, 1, 0, 2, 0);
        x.play(11);
        remember(x, 0, 1, 14, 1);
    }

    /** "at most k": in TURNS 3, 5, 7, 9, 11 there are two cards of one KIND, if nobody else lies there. */
    private static void rememberAtMost() {
        SnapHeaps x = quiet(TWO + "row 0 abcdefgggggg;row 1 hbcdefllllll;");
        int[] cards = {12 - 2 - 1 - 1 - 1 - 1, 12 + 2 - 1 - 1 - 1 - 1, 12 + 2 + 1 - 1 - 1 - 1, 12 + 2 + 1 + 1 - 1 - 1, 12 + 2 + 1 + 1 + 1 - 1};
        int[] bits = {0, 8, 8 + 32, 8 + 32 + 128, 8 + 32 + 128 + 512};
        for (int k = 0; k <= 4; k++) {
            remember(x, 0, k, cards[k], bits[k]);
        }
    }

    /** All 60 cards, and none. */
    private static void rememberAll() {
        SnapHeaps x = quiet(TWO + "row 0 " + "a".repeat(29) + "c;row 1 " + "b".repeat(29) + "c;");
        x.play(59);
        remember(x, 0, 0, 0, 0);
        remember(x, 0, 1, 60, 1);
        remember(x, 0, 4, 60, 1);
        remember(x, 1, 0, 0, 0);
        remember(x, 1, 1, 60, 1);
    }

    /** "in others the next PLAYER who is not OUT does". */
    private static void rememberThree() {
        String three = "player 1 0 9 0;player 1 0 9 1;player 1 0 9 2;";
        SnapHeaps x = quiet(three + "row 0 abcdefg;row 1 ahijklm;row 2 nonoonnnnn;");
        remember(x, 0, 1, 8, 2);
        remember(x, 0, 0, 6, 0);
        // if 1 does not remember it, 2 wins; if 2 does not, 0 does
        remember(x, 1, 0, 6, 0);
        remember(x, 1, 1, 8, 2);
        remember(x, 2, 0, 10, 0);
        remember(x, 2, 1, 12, 2);
        x = quiet(three + "row 0 abcdefg;row 2 ahijklm;");
        remember(x, 0, 0, 6, 0);
        remember(x, 2, 1, 8, 2);
        remember(x, 1, 4, 0, 0);
    }

    private static void odds(SnapHeaps x, int player, int n, long above, long below) {
        Check.due("odds " + player + " " + n + ", above", above, x.odds(player, n, 0));
        Check.due("odds " + player + " " + n + ", below", below, x.odds(player, n, 1));
    }

    /** n of 0: as it is now. */
    private static void oddsOfNone() {
        SnapHeaps x = quiet("player 1 0 9 0;player 1 0 9 1;player 1 0 9 2;row 0 abc;row 1 ab;row 2 ab;");
        odds(x, 0, 0, 1, 1);
        odds(x, 1, 0, 0, 1);
        odds(x, 2, 0, 0, 1);
        x = quiet("player 1 0 9 0;player 1 0 9 1;player 1 0 9 2;row 0 abc;row 1 ab;row 2 abc;");
        odds(x, 0, 0, 0, 1);
        odds(x, 1, 0, 0, 1);
        odds(x, 2, 0, 0, 1);
        x = quiet(TWO);
        odds(x, 0, 0, 0, 1);
        odds(x, 0, 12, 0, 1);
        x = quiet(TWO + "row 1 a;");
        odds(x, 0, 12, 0, 1);
        odds(x, 1, 12, 1, 1);
    }

    /** "n TURNS (to 12)". */
    private static void oddsTheTwelfth() {
        SnapHeaps x = quiet("player 2 0 9 0;player 3 0 9 1;row 0 abcdefm;row 1 ghijkfl;");
        odds(x, 0, 11, 0, 1);
        odds(x, 0, 12, 2, 5);
        odds(x, 1, 12, 3, 5);
        x = quiet("player 2 0 9 0;player 3 0 9 1;row 0 abcdefg;row 1 hijklgo;");
        odds(x, 0, 12, 0, 1);
        x.play(1);
        odds(x, 0, 11, 0, 1);
        odds(x, 0, 12, 2, 5);
        odds(x, 1, 12, 3, 5);
    }

    /** All cards of one KIND: who has more behind n TURNS, counted by all ways; the third, if there is one, is OUT. */
    private static void oddsOfTwelve() {
        int[][] quick = {{9, 8, 0}, {1, 9, 0}, {9, 1, 0}, {1, 1, 0}, {9, 8, 6}, {9, 9, 9}, {1, 1, 9}, {2, 3, 1}};
        String cards = "a".repeat(12);
        for (int[] q : quick) {
            SnapHeaps x = quiet("player " + q[0] + " 0 9 0;player " + q[1] + " 0 9 1;row 0 " + cards + ";row 1 " + cards + ";"
                + (q[2] > 0 ? "player " + q[2] + " 0 9 2;" : ""));
            for (int n = 0; n <= 12; n++) {
                long[] ways = new long[2];
                leads(new int[] {12, 0, 12, 0}, 0, n, 1, q, ways);
                long all = 1;
                for (int i = 0; i < n; i++) {
                    all *= q[0] + q[1] + q[2];
                }
                for (int p = 0; p < 2; p++) {
                    long common = common(ways[p], all);
                    odds(x, p, n, ways[p] / common, all / common);
                }
            }
            Check.holds("more than 32 bits", q[1] != 8 || q[2] != 6 || x.odds(0, 12, 1) > 4294967296L);
        }
    }

    /** piles: the ROW and the heap of 0, the ROW and the heap of 1. */
    private static void leads(int[] piles, int turn, int n, long weight, int[] q, long[] ways) {
        int[] cards = {piles[0] + piles[1], piles[2] + piles[3]};
        int allQuick = q[0] + q[1] + q[2];
        if (turn == n || cards[0] == 0 || cards[1] == 0) {
            long rest = weight;
            for (int i = turn; i < n; i++) {
                rest *= allQuick;
            }
            ways[0] += cards[0] > cards[1] ? rest : 0;
            ways[1] += cards[1] > cards[0] ? rest : 0;
            return;
        }
        int[] now = piles.clone();
        int layer = turn % 2 * 2;
        if (now[layer] == 0) {
            now[layer] = now[layer + 1];
            now[layer + 1] = 0;
        }
        now[layer]--;
        now[layer + 1]++;
        if (now[1] == 0 || now[3] == 0) {
            leads(now, turn + 1, n, weight * allQuick, q, ways);
            return;
        }
        leads(new int[] {now[0] + now[1] + now[3], 0, now[2], 0}, turn + 1, n, weight * q[0], q, ways);
        leads(new int[] {now[0], 0, now[2] + now[1] + now[3], 0}, turn + 1, n, weight * q[1], q, ways);
        if (q[2] > 0) {
            leads(now, turn + 1, n, weight * q[2], q, ways);
        }
    }

    private static long common(long a, long b) {
        return b == 0 ? a : common(b, a % b);
    }

    /** "by one who is OUT: nobody wins". */
    private static void oddsOfOneOut() {
        SnapHeaps x = quiet("player 2 0 9 0;player 3 0 9 1;player 5 0 9 2;row 0 abc;row 1 ade;");
        odds(x, 0, 1, 0, 1);
        odds(x, 0, 2, 1, 5);
        odds(x, 1, 2, 3, 10);
        odds(x, 2, 2, 0, 1);
        // if nobody won, there is b over a behind TURN 2: no more is alike
        odds(x, 0, 3, 1, 5);
        x = quiet("player 1 0 9 0;player 1 0 9 1;player 9 0 9 2;row 0 a;row 1 ab;row 2 bc;");
        x.play(1);
        // a of 1 on TURN 1: 0, 1 or 2 wins both, by 1, 1 and 9 of 11
        odds(x, 2, 1, 9, 11);
        odds(x, 0, 1, 0, 1);
        odds(x, 1, 1, 1, 11);
    }

    /** "from its last place down to the second": ROWS of none, one, two, sixty. */
    private static void shuffledSizes() {
        int[] seeds = {0, 1, -1, Integer.MIN_VALUE, Integer.MAX_VALUE, 12345, 65536, -2000000000};
        String sixty = "abcdefghijklmno".repeat(4);
        String[][] rows = {{"", "abc"}, {"a", "bcd"}, {"ab", "cd"}, {sixty, ""}, {sixty.substring(1), "h"}, {"abcdefghij", sixty.substring(20)}};
        for (int seed : seeds) {
            for (String[] two : rows) {
                StringBuilder table = new StringBuilder(TWO);
                for (int p = 0; p < 2; p++) {
                    table.append(two[p].isEmpty() ? "" : "row " + p + " " + two[p] + ";");
                }
                SnapHeaps x = on(table.toString());
                x.shuffle(seed);
                long now = seed & 0xffffffffL;
                for (int p = 0; p < 2; p++) {
                    char[] row = two[p].toCharArray();
                    for (int last = row.length - 1; last >= 1; last--) {
                        now = (now * 1103515245L + 12345L) % 4294967296L;
                        int place = (int) (now / 65536 % 32768 % (last + 1));
                        char c = row[last];
                        row[last] = row[place];
                        row[place] = c;
                    }
                    Check.text("row " + p + " of " + row.length + " by " + seed, new String(row), Ask.row(x, p));
                }
            }
        }
        SnapHeaps none = new SnapHeaps();
        none.shuffle(5);
        Check.due("no rows", 0, none.told(1));
    }

    /** "each SHUFFLED by SEED, SEED and 1, ..": 1 to 20 of them; the SEED wraps. */
    private static void lotWraps() {
        int[] seeds = {Integer.MAX_VALUE, Integer.MAX_VALUE - 1, -1, 0, 77};
        for (int seed : seeds) {
            SnapHeaps x = on("player 1 1 0 0;player 1 1 0 1;player 1 1 1 2;row 0 abcab;row 1 bcabc;row 2 cabca;");
            for (int many = 1; many <= 20; many += many == 1 ? 1 : 18) {
                int[] want = Ask.lot(x, seed, 1);
                for (int i = 1; i < many; i++) {
                    int[] one = Ask.lot(x, seed + i, 1);
                    want[0] = Math.min(want[0], one[0]);
                    want[1] = Math.max(want[1], one[1]);
                    for (int k = 2; k < 6; k++) {
                        want[k] += one[k];
                    }
                }
                Check.row("lot of " + many + " from " + seed, Ask.lot(x, seed, many), want);
                Check.due("each game ends somehow, or nobody is left", many, want[2] + want[3] + want[4] + want[5]);
            }
        }
    }

    private static void film(int a, int b, int c, int d, int first, int both, int below) {
        SnapHeaps x = new SnapHeaps();
        String what = "film " + a + " " + b + " " + c + " " + d;
        Check.due(what + ", first", first, x.film(a, b, c, d, 0));
        Check.due(what + ", both", both, x.film(a, b, c, d, 1));
        Check.due(what + ", below", below, x.film(a, b, c, d, 2));
    }

    private static void films() {
        film(0, 0, 0, 0, 0, 1, 1);
        film(99, 99, 99, 99, 0, 1, 1);
        film(0, 0, 99, 99, 1, 0, 1);
        film(99, 99, 0, 0, 0, 0, 1);
        film(0, 99, 0, 99, 4950, 100, 10000);
        film(0, 0, 0, 99, 99, 1, 100);
        film(0, 99, 0, 0, 0, 1, 100);
        film(0, 99, 99, 99, 99, 1, 100);
        film(99, 99, 0, 99, 0, 1, 100);
        film(0, 49, 50, 99, 2500, 0, 2500);
        film(0, 50, 50, 99, 2549, 1, 2550);
        film(50, 99, 0, 49, 0, 0, 2500);
    }

    /** "by false L and tie L (3 times false and tie)": 0 to 8. */
    private static void lawsOfNine() {
        // TURN 0: both call, with the same DELAY, and nothing is ALIKE: by tie 0 the first is 0, and it is false
        SnapHeaps x = on("player 1 1 1 2;player 1 1 1 2;row 0 a;row 1 b;");
        Texts.plan(x, 0, "turn 60 0 or alike");
        Texts.plan(x, 1, "turn 60 0 or alike");
        int[] left = {1, -1, -1, 1, -1, -1, -1, -1, -1};
        int[] length = {1, 62, 62, 1, 62, 62, 62, 62, 62};
        for (int which = 0; which <= 8; which++) {
            Check.due("left by " + which, left[which], x.laws(which, 0));
            Check.due("length by " + which, length[which], x.laws(which, 1));
        }
        Check.due("false stays", 0, x.told(5));
        Check.due("tie stays", 0, x.told(6));
    }

    /** A WIN takes the POOL by its LAW: b, or n, is in it; n and n are ALIKE behind TURN 3. */
    private static void oddsByPoolLaw() {
        String[] kinds = {"b", "n"};
        for (String kind : kinds) {
            for (int law = 0; law <= 2; law++) {
                SnapHeaps x = quiet("player 2 1 9 0;player 3 1 9 1;row 0 an;row 1 " + kind + "enffff;false 1;pool " + law + ";");
                Texts.guess(x, 1, "turn 60 0");
                x.play(1);
                Check.text("pool", kind, Ask.pool(x));
                boolean all = law == 2 || law == 1 && kind.equals("n");
                // 0 has 4 or 5 then, against 4
                odds(x, 0, 3, all ? 2 : 0, all ? 5 : 1);
                odds(x, 1, 3, 3, 5);
                remember(x, 0, 1, all ? 5 : 4, 4);
            }
        }
    }

    /** What an earlier, larger GAME left behind does not count. */
    private static void roundBehindALargerTable() {
        String cards = "abcdefghijklmno";
        SnapHeaps x = quiet(TWO + "row 0 " + cards + cards + ";row 1 " + cards + cards + ";open 0 30;open 1 30;");
        ends(x, "60 cards, all open: behind 62 as behind two", -1, 62, 2, 60);
        Texts.table(x, TWO + "row 0 a;row 1 b;");
        ends(x, "two cards", -1, 4, 2, 2);
        SnapHeaps y = quiet(TWO + "row 0 " + cards + cards + ";row 1 " + cards + cards + ";");
        ends(y, "60 cards, none open", -1, 120, 2, 60);
        SnapHeaps z = quiet(TWO + "row 0 " + "o".repeat(30) + ";row 1 " + "n".repeat(30) + ";");
        ends(z, "60 cards of two kinds", -1, 120, 2, 60);
    }
}
