/** The edges of a TABLE, a PLAN, a GUESS and a BOOK (promises 2 to 7): the least and the greatest of all, and next to them. */
public final class TextEdgesTest {
    private static final String TWO = "player 1 2 3 0;player 4 5 6 1;";
    private static final String CARDS = "abcdefghijklmno";

    public static void main(String[] args) {
        upTo600Bytes();
        clauses40();
        players3();
        numbersOfATable();
        numbersOfAPlan();
        numbersOfABook();
        numbersThatWrap();
        numbersAsManyDigitsAsStandThere();
        cards();
        cardsOfAll();
        openedCards();
        moments12();
        withoutAClause();
        kinds();
        opens();
        lengths();
        lines12();
        blankIsOnlyOne();
        textsCutShort();
        nothingAtAll();
        fewerThanTwo();
        theFirstFromTheLeft();
        bytesBeyondN();
        bytesOfANumber();
        wordsAreWhole();
        numbersWithoutAWord();
        aTableBehindALargerOne();
        Check.end("TextEdgesTest");
    }

    private static String shown(String text) {
        return text.length() > 70 ? text.substring(0, 20) + ".." + text.substring(text.length() - 40) : text;
    }

    /** Tells a text of a kind ("table", "plan", "guess", "book"). */
    private static int tell(SnapHeaps x, String kind, String text) {
        switch (kind) {
            case "table":
                return Texts.table(x, text);
            case "plan":
                return Texts.plan(x, 1, text);
            case "guess":
                return Texts.guess(x, 0, text);
            default:
                return Texts.book(x, text);
        }
    }

    private static SnapHeaps two() {
        SnapHeaps x = new SnapHeaps();
        Check.due("two players", 2, Texts.table(x, TWO + "row 0 abc;row 1 abd;"));
        return x;
    }

    private static SnapHeaps good(String kind, String text, int answer) {
        SnapHeaps x = two();
        Check.due(kind + " \"" + shown(text) + "\"", answer, tell(x, kind, text));
        Check.due("no fault in \"" + shown(text) + "\"", -1, x.fault());
        Check.due("no bytes behind it", 0, x.count(1));
        return x;
    }

    private static void fault(String kind, String text, int number, int at) {
        SnapHeaps x = two();
        Check.due(kind + " \"" + shown(text) + "\"", number - 10, tell(x, kind, text));
        Check.due("the place in \"" + shown(text) + "\"", at, x.fault());
        Check.due("no bytes behind it", 0, x.count(1));
    }

    private static String filled(String text, int length) {
        return text + " ".repeat(length - text.length());
    }

    /** "A TABLE is a text of up to 600 bytes". */
    private static void upTo600Bytes() {
        String begin = "player 1 2 3 0;player 4 5 6 1;row 0 abc;";
        String long600 = filled(begin, 600 - 12) + "row 1 lmnab;";
        SnapHeaps x = good("table", long600, 2);
        Check.due("its last card", 1, x.row(1, 4));
        good("table", filled(begin, 600), 2);
        fault("table", filled(begin, 599) + "x", 1, 599);
        fault("table", long600.substring(0, 599) + "b", 1, 600);
        fault("table", filled("player 1 2 3 0;", 600), 4, 600);
        fault("table", filled("", 600), 4, 600);
        SnapHeaps y = two();
        Texts.feed(y, long600);
        Check.due("no room for more", -1, y.feed(0, 0, 0, 0, 0));
        Check.noNumber(y, "table(601)", () -> y.table(601));
        Check.due("600 can be read", 2, y.table(600));
        Check.due("and there is room", 20, y.feed(0, 0, 0, 0, 0));
    }

    /** "at most 40"; 3 "a CLAUSE .. too many (at its word ..)". */
    private static void clauses40() {
        String most = TWO + "tie 2;".repeat(37);
        SnapHeaps x = good("table", most + "tie 1;", 2);
        Check.due("the 40th counts", 1, x.told(6));
        good("table", most + "tie 1;   ", 2);
        fault("table", most + "tie 1;tie 0;", 3, most.length() + 6);
        fault("table", most + "tie 1;  tie 0;", 3, most.length() + 8);
        fault("table", most + "tie 1;tie", 3, most.length() + 6);
        fault("table", most + "tie 1;tie 3;", 3, most.length() + 6);
        fault("table", most + "tie 1;pace 5 99;", 3, most.length() + 6);
        fault("table", most + "tie 1;;", 1, most.length() + 6);
        fault("table", most + "tie 3;tie 0;", 2, most.length() + 4);
        String forty = "tie 1;".repeat(40);
        fault("table", forty, 4, 240);
        fault("table", forty + TWO, 3, 240);
    }

    /** "PLAYERS, numbered from 0 on, 3 at most". */
    private static void players3() {
        SnapHeaps x = good("table", "player 1 1 1 0;player 2 1 1 0;player 3 1 1 0;row 2 a;", 3);
        for (int p = 0; p < 3; p++) {
            Check.due("numbered from 0 on", p + 1, x.player(p, 0));
        }
        Check.due("a row of the third", 0, x.row(2, 0));
        fault("table", TWO + "player 1 1 1 0;player 1 1 1 0;", 3, 45);
        fault("table", TWO + "player 1 1 1 0; player", 3, 46);
        fault("table", TWO + "player 1 1 1 0;player 0 99 x", 3, 45);
    }

    /** From least to greatest in a CLAUSE with one %: what it is asked by has to answer it. */
    private static void number(String kind, String begin, String end, int least, int greatest) {
        int more = kind.equals("table") ? 2 : 1;
        good(kind, begin + least + end, more);
        good(kind, begin + greatest + end, more);
        fault(kind, begin + (greatest + 1) + end, 2, begin.length());
        if (least > 0) {
            fault(kind, begin + (least - 1) + end, 2, begin.length());
        } else {
            fault(kind, begin + "-1" + end, 1, begin.length());
        }
        if (!begin.isEmpty()) {
            fault(kind, begin, 1, begin.length());
        }
        fault(kind, begin + "x" + end, 1, begin.length());
        fault(kind, begin + "+" + greatest + end, 1, begin.length());
        fault(kind, begin + greatest + ".0" + end, 1, begin.length() + String.valueOf(greatest).length());
    }

    private static void numbersOfATable() {
        String one = "player 1 1 1 0;";
        number("table", one + "player ", " 1 1 0;", 1, 9);
        number("table", one + "player 1 ", " 1 0;", 0, 60);
        number("table", one + "player 1 1 ", " 0;", 0, 9);
        number("table", one + "player 1 1 1 ", ";", 0, 2);
        number("table", TWO + "row ", " abc;", 0, 1);
        number("table", TWO + "pace ", " 5;", 0, 1);
        number("table", TWO + "pace 1 ", ";", 1, 9);
        number("table", TWO + "false ", ";", 0, 2);
        number("table", TWO + "tie ", ";", 0, 2);
        number("table", TWO + "pool ", ";", 0, 2);
        number("table", TWO + "open ", " 0;", 0, 1);
        number("table", TWO + "row 1 abc;open 1 ", ";", 0, 3);
        number("table", TWO + "open 1 ", ";", 0, 0);
        number("table", TWO + "moment ", ";", 0, 9);
        SnapHeaps x = good("table", "player 9 60 9 2;player 1 0 0 0;pace 0 9;pace 1 1;false 2;tie 2;pool 2;", 2);
        Check.row("the greatest", Ask.men(x, 0), 9, 60, 9, 2, 9, 0, 0, 1);
        Check.row("the least", Ask.men(x, 1), 1, 0, 0, 0, 1, 0, 0, 1);
        Check.row("laws", Ask.tolds(x), 2, 0, 0, -1, 0, 2, 2, 2, 0);
        String three = TWO + "player 1 1 1 1;";
        SnapHeaps y = new SnapHeaps();
        Check.due("a row of 2, pace of 2, open of 2", 3, Texts.table(y, three + "row 2 a;pace 2 4;open 2 1;"));
        fault("table", three + "row 3 a;", 2, 49);
        fault("table", three + "pace 3 4;", 2, 50);
        fault("table", three + "open 3 0;", 2, 50);
        fault("table", "row 0 a;" + TWO, 2, 4);
        fault("table", one + "row 1 a;" + one, 2, 19);
        fault("table", one + "pace 1 5;" + one, 2, 20);
        fault("table", one + "open 1 0;" + one, 2, 20);
    }

    private static void numbersOfAPlan() {
        String[] kinds = {"plan", "guess"};
        for (String kind : kinds) {
            number(kind, "heap < ", "", 0, 60);
            number(kind, "heap > ", " or mine", 0, 60);
            number(kind, "row < ", "", 0, 60);
            number(kind, "row > ", " and mine", 0, 60);
            number(kind, "pool > ", "", 0, 60);
            number(kind, "[turn ", " 0]", 1, 60);
            number(kind, "turn 60 ", "", 0, 59);
            number(kind, "turn 2 ", "", 0, 1);
            number(kind, "turn 1 ", " or mine", 0, 0);
            fault(kind, "turn 61 60", 2, 5);
            fault(kind, "turn 60 60", 2, 8);
            fault(kind, "turn 0 0", 2, 5);
        }
    }

    private static void numbersOfABook() {
        number("book", "", " 1;", 0, 9999);
        number("book", "7 ", ";", 0, 1);
        SnapHeaps x = good("book", "0 0;9999 1;", 2);
        Check.due("least T", 0, x.entry(0, 0));
        Check.due("least P", 0, x.entry(0, 1));
        Check.due("greatest T", 9999, x.entry(1, 0));
        Check.due("greatest P", 1, x.entry(1, 1));
        SnapHeaps y = new SnapHeaps();
        Texts.table(y, TWO + "player 1 1 1 1;");
        Check.due("player 2 of three", 1, Texts.book(y, "7 2;"));
        Check.due("no player 3 of three", -8, Texts.book(y, "7 3;"));
        SnapHeaps z = new SnapHeaps();
        Check.due("nobody of none", -8, Texts.book(z, "7 0;"));
        Check.due("its place", 2, z.fault());
    }

    /** 32 and 64 bits more are no such number. */
    private static void numbersThatWrap() {
        String[] wraps = {"256", "65536", "2147483647", "2147483648", "4294967296", "4294967297", "4294967301", "9223372036854775808",
            "18446744073709551616", "18446744073709551617", "18446744073709551621", "340282366920938463463374607431768211457"};
        for (String wrap : wraps) {
            fault("table", "player " + wrap + " 1 1 0;" + TWO, 2, 7);
            fault("table", "player 1 " + wrap + " 1 0;" + TWO, 2, 9);
            fault("table", TWO + "row " + wrap + " a;", 2, 34);
            fault("table", TWO + "row 0 abc;open 0 " + wrap + ";", 2, 47);
            fault("table", TWO + "moment " + wrap + ";", 2, 37);
            fault("plan", "heap>" + wrap, 2, 5);
            fault("plan", "turn " + wrap + " 0", 2, 5);
            fault("guess", "turn 9 " + wrap, 2, 7);
            fault("book", wrap.length() < 4 ? "99" + wrap + " 0;" : wrap + " 0;", 2, 0);
            fault("book", "1 " + wrap + ";", 2, 2);
        }
    }

    private static void numbersAsManyDigitsAsStandThere() {
        String zeros = "0".repeat(500);
        SnapHeaps x = good("table", "player " + zeros + "7 1 1 0;player 4 5 6 1;row 1 ab;", 2);
        Check.due("a seven with 500 zeros", 7, x.player(0, 0));
        fault("table", "player " + "9".repeat(500) + " 1 1 0;player 4 5 6 1;", 2, 7);
        good("plan", "heap<" + "0".repeat(143) + "60", 1);
        fault("plan", "heap<" + "0".repeat(143) + "61", 2, 5);
        good("book", "0".repeat(112) + "9999 1;", 1);
        fault("book", "0".repeat(111) + "10000 1;", 2, 0);
        fault("table", "player 12 3 4;player 4 5 6 1;", 2, 7);
        fault("book", "12;", 1, 2);
    }

    /** "1 to 60 small letters "a" to "o", with no blanks between". */
    private static void cards() {
        SnapHeaps x = good("table", TWO + "row 1 o;row 0 a;", 2);
        Check.due("the greatest kind", 14, x.row(1, 0));
        Check.due("the least kind", 0, x.row(0, 0));
        Check.due("one card", 1, x.player(1, 5));
        fault("table", TWO + "row 0;", 1, 35);
        fault("table", TWO + "row 0 ;", 1, 36);
        fault("table", TWO + "row 0 p;", 1, 36);
        fault("table", TWO + "row 0 z;", 1, 36);
        fault("table", TWO + "row 0 `;", 1, 36);
        fault("table", TWO + "row 0 {;", 1, 36);
        fault("table", TWO + "row 0 A;", 1, 36);
        fault("table", TWO + "row 0 ap;", 1, 37);
        fault("table", TWO + "row 0 aoz;", 1, 38);
        fault("table", TWO + "row 0 a`;", 1, 37);
        fault("table", TWO + "row 0 a{;", 1, 37);
        fault("table", TWO + "row 0 a b;", 1, 38);
        fault("table", TWO + "row 0 a1;", 1, 37);
    }

    /** "60 of all at most"; 3 "a 61st card of all (at it)". */
    private static void cardsOfAll() {
        SnapHeaps x = good("table", TWO + "row 1 " + CARDS.repeat(4) + ";", 2);
        Check.due("60 of one", 60, x.player(1, 5));
        Check.due("the 60th", 14, x.row(1, 59));
        Check.due("no 61st", -1, x.row(1, 60));
        fault("table", TWO + "row 1 " + CARDS.repeat(4) + "a;", 3, 96);
        fault("table", TWO + "row 1 " + CARDS.repeat(4) + ";row 0 a;", 3, 103);
        fault("table", TWO + "row 1 " + CARDS.repeat(4) + ";row 0 ;", 1, 103);
        fault("table", TWO + "row 1 " + CARDS.repeat(3) + ";row 0 " + CARDS + "a;", 3, 103);
        x = good("table", TWO + "row 1 " + CARDS.repeat(2) + ";row 0 " + CARDS + ";row 1 " + CARDS + ";", 2);
        Check.due("added behind what he has", 45, x.player(1, 5));
        Check.due("the others", 15, x.player(0, 5));
        Check.due("60 of all", 60, x.told(1));
        String single = "row 0 a;row 1 b;".repeat(19);
        x = good("table", TWO + single, 2);
        Check.due("40 clauses, 38 cards", 38, x.told(1));
    }

    /** "the first N cards of his ROW, 0 to 60 and no more than it has". */
    private static void openedCards() {
        String rows = TWO + "row 0 " + CARDS.repeat(4) + ";";
        SnapHeaps x = good("table", rows + "open 0 60;", 2);
        Check.due("the first", 1, x.lain(0, 0));
        Check.due("the last", 1, x.lain(0, 59));
        Check.due("none such", -1, x.lain(0, 60));
        x = good("table", rows + "open 0 59;", 2);
        Check.due("the 59th", 1, x.lain(0, 58));
        Check.due("not the 60th", 0, x.lain(0, 59));
        x = good("table", rows + "open 0 0;", 2);
        Check.due("none", 0, x.lain(0, 0));
        fault("table", rows + "open 0 61;", 2, rows.length() + 7);
        fault("table", TWO + "row 0 ab;open 0 3;row 0 c;", 2, 46);
        x = good("table", TWO + "row 0 ab;open 0 2;row 0 c;open 1 0;", 2);
        Check.due("what came behind is not open", 0, x.lain(0, 2));
        x = good("table", TWO + "row 0 abc;open 0 2;open 0 0;", 2);
        Check.due("what was so stays so", 1, x.lain(0, 1));
        x = good("table", TWO + "row 0 abc;open 0 1;open 0 3;", 2);
        Check.due("the last counts", 1, x.lain(0, 2));
    }

    /** "MOMENTS, numbered from 0 on, 12 at most". */
    private static void moments12() {
        SnapHeaps x = good("table", TWO + "moment 1;moment 2;moment 3;moment 4;moment 5;moment 6;moment 7;moment 8;"
            + "moment 9;moment 0;moment 1;moment 3;", 2);
        Check.due("twelve", 12, x.told(8));
        Check.due("never", 0, x.moments(12, 12, 9));
        Check.due("the last: its weight of 3, the others at 9", 30 + 46 * 10, x.moments(11, 12, 9));
        fault("table", TWO + "moment 1;".repeat(13), 3, 138);
        fault("table", TWO + "moment 1;".repeat(12) + "moment", 3, 138);
        fault("table", TWO + "moment 1;".repeat(12) + "moment 10;", 3, 138);
        x = good("table", TWO, 2);
        Check.due("none", 0, x.told(8));
    }

    /** "5 without", "0 without", and the last of several. */
    private static void withoutAClause() {
        SnapHeaps x = good("table", TWO, 2);
        Check.row("told", Ask.tolds(x), 2, 0, 0, -1, 0, 0, 0, 0, 0);
        Check.due("pace", 5, x.player(0, 4));
        Check.due("pace", 5, x.player(1, 4));
        x = good("table", TWO + "pace 1 9;pace 1 1;pace 0 3;false 2;false 1;tie 1;tie 2;pool 2;pool 0;", 2);
        Check.due("the last pace", 1, x.player(1, 4));
        Check.due("the other one's", 3, x.player(0, 4));
        Check.due("the last false", 1, x.told(5));
        Check.due("the last tie", 2, x.told(6));
        Check.due("the last pool", 0, x.told(7));
        Check.due("a new table is without all this", 2, Texts.table(x, TWO));
        Check.due("pace", 5, x.player(1, 4));
        Check.due("tie", 0, x.told(6));
    }

    /** "one letter "a" to "o"". */
    private static void kinds() {
        String[] words = {"top", "near"};
        for (String word : words) {
            int at = word.length() + 1;
            good("plan", word + " a", 1);
            good("guess", word + " o", 1);
            good("plan", word + " o ", 1);
            String[] wrong = {"p", "z", "`", "{", "A", "O", "1", "[", "aa", "op", "pa", "oo"};
            for (String k : wrong) {
                fault("plan", word + " " + k, 1, at);
                fault("guess", word + " " + k + " or mine", 1, at);
            }
            fault("plan", word, 1, at - 1);
            fault("plan", word + " ", 1, at);
            fault("plan", word + "a", 1, 0);
            fault("plan", word + " a b", 1, at + 2);
            fault("plan", word + " a1", 1, at + 1);
        }
    }

    /** 1 "what can't stand there": numbers and signs that would do behind a word, without one. */
    private static void numbersWithoutAWord() {
        String[] starts = {"", " ", "not ", "[", "[ not ", "mine and ", "mine or not "};
        String[] bare = {"3 1", "1 0", "60 59", "0", "<5", "> 0", "b"};
        for (String start : starts) {
            for (String text : bare) {
                fault("plan", start + text, 1, start.length());
                fault("guess", start + text + " or mine", 1, start.length());
            }
        }
        String[] clauses = {"1;", "0 5;", "0 abc;", "1 2 3 0;", "abc;", ";"};
        for (String clause : clauses) {
            fault("table", TWO + clause, 1, TWO.length());
            fault("table", clause + TWO, 1, 0);
        }
    }

    /** 3 "a 7th of [ and not that is open at one time (a not till its B ends)". */
    private static void opens() {
        for (int nots = 0; nots <= 6; nots++) {
            int brackets = 6 - nots;
            String begin = "[".repeat(brackets) + "not ".repeat(nots);
            String end = "]".repeat(brackets);
            good("plan", begin + "alike" + end, 1);
            fault("plan", begin + "not alike" + end, 3, begin.length());
            fault("guess", begin + "[alike]" + end, 3, begin.length());
            fault("guess", begin + " [", 3, begin.length() + 1);
            fault("plan", begin + "not", 3, begin.length());
            good("guess", begin + "alike" + end + " and " + begin + "mine" + end, 1);
            if (nots > 0) {
                good("plan", begin + "alike and not mine or not know" + end, 1);
            } else {
                fault("plan", begin + "alike and not mine" + end, 3, 16);
            }
        }
        good("plan", "not not not [not [mine] and not mine and [[mine]]] and [[[[[not mine]]]]]", 1);
        fault("plan", "[[[[[[mine]]]]]", 1, 15);
        fault("plan", "[[[[[[mine]]]]]]]", 1, 16);
    }

    /** "of up to 150 bytes", "of up to 120 bytes". */
    private static void lengths() {
        String facts = "row>0" + " or row<0".repeat(16);
        String plan = facts + " ";
        SnapHeaps x = good("plan", plan, 1);
        Check.due("150 bytes", 150, plan.length());
        Check.holds("it holds", x.would(1, 0));
        good("guess", plan, 1);
        fault("plan", facts + "]", 1, 149);
        fault("guess", filled("mine", 149) + "x", 1, 149);
        String book = filled("0001 0; ".repeat(11), 113) + "9998 1;";
        Check.due("120 bytes", 120, book.length());
        x = good("book", book, 12);
        Check.due("its last line", 9998, x.entry(11, 0));
        fault("book", book.substring(0, 119) + ",", 1, 119);
        fault("book", book.substring(0, 119) + " ", 1, 120);
        good("book", filled("1 0;", 120), 1);
    }

    /** 3 "a .. line of a BOOK too many (at .. its T)". */
    private static void lines12() {
        String most = "7 1;".repeat(12);
        SnapHeaps x = good("book", most, 12);
        Check.due("the 12th", 7, x.entry(11, 0));
        Check.due("no 13th", -1, x.entry(12, 0));
        Check.due("nor its P", -1, x.entry(12, 1));
        good("book", most + "     ", 12);
        fault("book", most + "7 1;", 3, 48);
        fault("book", most + "  7 1;", 3, 50);
        fault("book", most + "  7", 3, 50);
        fault("book", most + "7 9;", 3, 48);
        fault("book", most + ";", 1, 48);
        fault("book", most.substring(0, 44) + "7 9;7 1;", 2, 46);
    }

    /** "blanks (32)": no other byte is one. */
    private static void blankIsOnlyOne() {
        for (int b = 0; b <= 255; b++) {
            String sign = String.valueOf((char) b);
            if (b == ' ') {
                good("table", TWO + sign, 2);
                good("plan", "mine" + sign, 1);
                good("book", "1 0;" + sign, 1);
                continue;
            }
            fault("table", TWO + sign, 1, 30);
            fault("plan", "mine" + sign, 1, b >= 'a' && b <= 'z' ? 0 : 4);
            if (b < '0' || b > '9') {
                fault("guess", "heap>3" + sign, 1, 6);
            }
            fault("book", "1 0;" + sign, 1, b >= '0' && b <= '9' ? 5 : 4);
        }
    }

    /** "at the length, if the text ends too early": each cut of a text, and the place that is due for it. */
    private static void cuts(String kind, String text, int... places) {
        Check.due("cuts", text.length(), places.length);
        for (int n = 0; n < places.length; n++) {
            if (places[n] >= 0) {
                fault(kind, text.substring(0, n), 1, places[n]);
            }
        }
    }

    private static void textsCutShort() {
        // NONE: the cut is a text by itself
        int o = SnapHeaps.NONE;
        cuts("plan", "not [top b or turn 7 3]", 0, 0, 0, 3, 4, 5, 5, 5, 8, 9, 10, 11, 11, 13, 14, 14, 14, 14, 18, 19, 20, 21, 22);
        cuts("guess", "heap < 12 and alike", 0, 0, 0, 0, 4, 5, 6, 7, o, o, o, 10, 10, 13, 14, 14, 14, 14, 14);
        cuts("book", "12 1;7 0;", o, 1, 2, 3, 4, o, 6, 7, 8);
        cuts("table", "player 1 22 3 0;", o, 0, 0, 0, 0, 0, 6, 7, 8, 9, 10, 11, 12, 13, 14, 15);
        String[] clauses = {"row 1 ab;", "pace 1 5;", "open 1 0;", "tie 1;", "false 1;", "pool 1;", "moment 1;"};
        for (String clause : clauses) {
            good("table", TWO + clause, 2);
            int word = clause.indexOf(' ');
            for (int n = 1; n < clause.length(); n++) {
                fault("table", TWO + clause.substring(0, n), 1, n < word ? 30 : 30 + n);
            }
        }
    }

    /** "of nothing, too". */
    private static void nothingAtAll() {
        String[] nothings = {"", " ", "     "};
        for (String nothing : nothings) {
            fault("table", nothing, 4, nothing.length());
            fault("plan", nothing, 1, nothing.length());
            fault("guess", nothing, 1, nothing.length());
            good("book", nothing, 0);
        }
        SnapHeaps x = two();
        Texts.feed(x, TWO);
        Check.due("nothing of a tape of 40", -6, x.table(0));
        Check.due("its place", 0, x.fault());
        Check.due("the tape is empty", 0, x.count(1));
        Texts.feed(x, TWO);
        Check.due("no lines of a tape of 40", 0, x.book(0));
        Check.due("the tape is empty", 0, x.count(1));
    }

    /** 4 "a TABLE of fewer than two PLAYERS (at its end: the length ..)". */
    private static void fewerThanTwo() {
        String one = "player 1 1 1 1;";
        fault("table", one, 4, 15);
        fault("table", one + "   ", 4, 18);
        fault("table", one + "row 0 abc;moment 2;", 4, 34);
        fault("table", "tie 1;", 4, 6);
        good("table", one + one, 2);
        fault("table", one + one.substring(0, 14), 1, 29);
        fault("table", one.substring(0, 14), 1, 14);
    }

    /** "the first from the left", "of one the least". */
    private static void theFirstFromTheLeft() {
        fault("table", TWO + "tie 3;row 9 p;x", 2, 34);
        fault("table", TWO + "x;tie 3;" + TWO, 1, 30);
        fault("table", "player 1 1 1 3;row", 2, 13);
        fault("table", "player 1 1 1 1,", 1, 14);
        fault("plan", "[[[[[[[mine]]]]]]] and heap<61", 3, 6);
        fault("plan", "heap<61 and [[[[[[[mine]]]]]]]", 2, 5);
        fault("plan", "mine mine heap<61", 1, 5);
        fault("plan", "turn 61 99", 2, 5);
        fault("book", "1 2;10000 0;", 2, 2);
        fault("book", "10000 2;", 2, 0);
        fault("book", "1 0,10000 0;", 1, 3);
    }

    /** "The first n bytes of the TAPE (empty then)". */
    private static void bytesBeyondN() {
        String[] kinds = {"table", "plan", "guess", "book"};
        String[] texts = {TWO, "mine", "know", "3 1;"};
        for (int i = 0; i < kinds.length; i++) {
            SnapHeaps x = two();
            Texts.feed(x, texts[i] + "but this is not read at all");
            int n = texts[i].length();
            int answer = i == 0 ? x.table(n) : i == 1 ? x.plan(0, n) : i == 2 ? x.guess(0, n) : x.book(n);
            Check.due(kinds[i] + " of the first bytes", i == 0 ? 2 : 1, answer);
            Check.due("all bytes are gone", 0, x.count(1));
            Check.due("the next come first", 20, x.feed(0x6d696e65, 0, 0, 0, 0));
            Check.due("and are read", 1, x.plan(1, 4));
        }
    }

    /** "Twenty bytes .. of each number the highest first"; "if there would be more than 600". */
    private static void bytesOfANumber() {
        String text = "mine or [know and not heap<1] or top o and near a or turn 60 59";
        for (int shift = 0; shift < 20; shift++) {
            SnapHeaps x = two();
            String told = " ".repeat(shift) + text;
            Check.due("each byte at its place, " + shift, 1, Texts.plan(x, 0, told));
            Check.due("bytes that are no signs, " + shift, -9, Texts.plan(x, 0, told + "\u00ff"));
            Check.due("behind all others, " + shift, told.length(), x.fault());
        }
        SnapHeaps x = two();
        int[][] least = {{Integer.MIN_VALUE, 0, 0, 0, 0}, {-1, -1, -1, -1, -1}, {Integer.MAX_VALUE, 1, 2, 3, 4}};
        for (int i = 1; i <= 30; i++) {
            int[] f = least[i % 3];
            Check.due("how many", 20 * i, x.feed(f[0], f[1], f[2], f[3], f[4]));
        }
        for (int i = 0; i < 3; i++) {
            Check.due("none more", -1, x.feed(0, 0, 0, 0, 0));
            Check.due("600", 600, x.count(1));
        }
        Check.due("a text makes room", 0, x.book(0));
        Check.due("for twenty", 20, x.feed(0, 0, 0, 0, 0));
    }

    /** A word is one only with all its letters, and as many as stand there. */
    private static void wordsAreWhole() {
        String[] clauses = {"player 1 1 1 1;", "row 0 a;", "pace 0 1;", "false 1;", "tie 1;", "pool 1;", "open 0 0;", "moment 1;"};
        String[] facts = {"alike", "mine", "know", "top a", "near a", "heap<1", "row<1", "pool>1", "turn 1 0", "not mine"};
        for (String clause : clauses) {
            wordIsWhole("table", TWO, clause);
        }
        for (String fact : facts) {
            wordIsWhole("plan", "", fact);
            wordIsWhole("guess", "mine or ", fact);
            wordIsWhole("plan", "[know and ", fact);
        }
        wordIsWhole("plan", "mine ", "or mine");
        wordIsWhole("plan", "mine ", "and mine");
    }

    private static void wordIsWhole(String kind, String begin, String text) {
        int length = 0;
        while (length < text.length() && Character.isLetter(text.charAt(length))) {
            length++;
        }
        for (int i = 0; i < length; i++) {
            char other = text.charAt(i) == 'x' ? 'y' : 'x';
            fault(kind, begin + text.substring(0, i) + other + text.substring(i + 1), 1, begin.length());
            fault(kind, begin + text.substring(0, i) + Character.toUpperCase(text.charAt(i)) + text.substring(i + 1), 1,
                begin.length());
        }
        fault(kind, begin + text.substring(0, length) + "s" + text.substring(length), 1, begin.length());
        fault(kind, begin + "s" + text, 1, begin.length());
    }

    /** All of an earlier TABLE is gone: a third PLAYER, cards, MOMENTS, what goes round. */
    private static void aTableBehindALargerOne() {
        String large = "player 9 60 9 2;player 9 60 9 2;player 9 60 0 2;row 0 " + CARDS + CARDS.substring(0, 5) + ";row 1 " + CARDS
            + CARDS.substring(0, 5) + ";row 2 " + CARDS + CARDS.substring(0, 5) + ";open 2 20;pace 2 9;pace 1 9;"
            + "moment 9;".repeat(12) + "false 2;tie 2;pool 2;";
        SnapHeaps x = new SnapHeaps();
        Check.due("three", 3, Texts.table(x, large));
        Texts.plan(x, 2, "turn 7 0");
        Texts.guess(x, 2, "turn 11 0");
        x.play(40);
        x.ends(1);
        x.law(1, 0);
        x.play(3);
        Check.due("two", 2, Texts.table(x, "player 1 1 0 0;player 2 1 0 1;row 0 aab;row 1 ab;moment 1;"));
        SnapHeaps y = new SnapHeaps();
        Texts.table(y, "player 1 1 0 0;player 2 1 0 1;row 0 aab;row 1 ab;moment 1;");
        for (int t = 0; t < 3; t++) {
            Check.text("as on a new object", Whole.of(y), Whole.of(x));
            for (int n = 0; n <= 12; n += 3) {
                Check.due("odds, above", y.odds(1, n, 0), x.odds(1, n, 0));
                Check.due("odds, below", y.odds(1, n, 1), x.odds(1, n, 1));
            }
            x.play(1);
            y.play(1);
        }
        Check.noPlayer(x, "player 2", () -> x.row(2, 0));
        Check.due("a small one", 2, Texts.table(x, "player 1 1 0 0;player 1 1 0 1;row 0 a;row 1 b;"));
        Check.row("goes round", Ask.ends(x), -1, 4, 2, 2);
    }
}
