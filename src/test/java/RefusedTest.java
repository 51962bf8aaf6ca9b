import java.util.ArrayList;
import java.util.List;

/**
 * Each number that a call takes: the least and the greatest one are taken, the ones next to them are refused; a call
 * that is refused, one that can do nothing, and one that only asks leave all else as it was.
 */
public final class RefusedTest {
    private static final String TABLE = "player 2 3 1 0;player 3 2 0 1;player 1 9 2 2;row 0 abcab;row 1 bacba;"
        + "row 2 cabbc;moment 3;moment 5;false 1;tie 2;pool 1;open 1 3;";
    private static final int TAPE = 13;

    /** A call with one number that is looked at. */
    interface Take {
        void go(SnapHeaps x, int n);
    }

    /** One call. */
    interface Call {
        void go(SnapHeaps x);
    }

    private static final List<Call> ASKS = new ArrayList<>();

    public static void main(String[] args) {
        texts();
        longTexts();
        players();
        whats();
        turns();
        wagers();
        games();
        films();
        numbersOfAllSizes();
        playersComeFirst();
        countedOnceEach();
        asksChangeNothing();
        nothingToDo();
        faultsLetAllStay();
        Check.end("RefusedTest");
    }

    /** A GAME in its midst, with all that can stand there: 2 TURNS of it in an IMAGE, 5 that can be undone, a BOOK. */
    private static SnapHeaps midst() {
        SnapHeaps x = new SnapHeaps();
        Check.due("a table", 3, Texts.table(x, TABLE));
        Check.due("a plan", 1, Texts.plan(x, 0, "alike or turn 5 3"));
        Check.due("a guess", 1, Texts.guess(x, 1, "know or turn 9 4"));
        Check.due("a book", 2, Texts.book(x, "4 1;5 2;"));
        x.draws(77);
        x.play(2);
        x.image();
        x.play(3);
        return x;
    }

    /** Likewise, and 20 bytes on the TAPE. */
    private static SnapHeaps full() {
        SnapHeaps x = midst();
        Texts.feed(x, "alike or know");
        return x;
    }

    /** What comes later tells what can't be asked for: the bytes of the TAPE, PLANS, the SEED, the IMAGE. */
    private static String later(SnapHeaps x) {
        StringBuilder all = new StringBuilder();
        all.append(x.play(3)).append(' ').append(Ask.board(x)).append(' ').append(x.undo(4)).append(' ').append(Ask.board(x));
        all.append(' ').append(x.plan(2, TAPE)).append(' ').append(x.play(2)).append(' ').append(Ask.board(x));
        all.append(' ').append(x.restore()).append(' ').append(x.play(4)).append(' ').append(Whole.now(x));
        return all.append(' ').append(x.still()).toString();
    }

    private static final String WHOLE = Whole.of(full());
    private static final String LATER = later(full());

    /** The object is as it was, and goes on as if the call had not been. */
    private static void stays(String what, Call call) {
        SnapHeaps x = full();
        call.go(x);
        Check.text(what + ": all else is as it was", WHOLE, Whole.of(x));
        SnapHeaps y = full();
        call.go(y);
        Check.text(what + ": all goes on as it did", LATER, later(y));
    }

    private static void refused(String what, int n, boolean player, Take take) {
        String told = what + " with " + n;
        stays(told, x -> {
            if (player) {
                Check.noPlayer(x, told, () -> take.go(x, n));
            } else {
                Check.noNumber(x, told, () -> take.go(x, n));
            }
        });
    }

    private static void taken(String what, int n, SnapHeaps x, Take take) {
        int others = x.status(0) + x.status(1);
        String got = "nothing";
        try {
            take.go(x, n);
        } catch (RuntimeException e) {
            got = e.getClass().getSimpleName();
        }
        Check.text(what + " with " + n + " throws", "nothing", got);
        Check.due(what + " with " + n + ": refusals", others, x.status(0) + x.status(1));
    }

    private static void range(String what, int least, int greatest, boolean player, Take take) {
        taken(what, least, full(), take);
        taken(what, greatest, full(), take);
        int[] wrong = {least - 1, greatest + 1, Integer.MIN_VALUE, Integer.MAX_VALUE};
        for (int n : wrong) {
            refused(what, n, player, take);
        }
    }

    /** A number by itself. */
    private static void number(String what, int least, int greatest, Take take) {
        range(what, least, greatest, false, take);
    }

    /** Likewise of a call that only asks: what it answers in its range changes nothing, too. */
    private static void ask(String what, int least, int greatest, Take take) {
        number(what, least, greatest, take);
        ASKS.add(x -> take.go(x, least));
        ASKS.add(x -> take.go(x, greatest));
    }

    private static void player(String what, Take take) {
        range(what, 0, 2, true, take);
    }

    private static void texts() {
        number("table(n), 20 bytes on the tape", 0, 20, (x, n) -> x.table(n));
        number("plan(0, n), 20 bytes on the tape", 0, 20, (x, n) -> x.plan(0, n));
        number("guess(0, n), 20 bytes on the tape", 0, 20, (x, n) -> x.guess(0, n));
        number("book(n), 20 bytes on the tape", 0, 20, (x, n) -> x.book(n));
    }

    /** Of a TAPE that is longer than the text may be. */
    private static void longText(String what, int most, Take take) {
        String blanks = " ".repeat(20);
        for (int n = most; n <= most + 1; n++) {
            SnapHeaps x = full();
            for (int i = 0; i < 29; i++) {
                Texts.feed(x, blanks);
            }
            Check.due("all 600", 600, x.count(1));
            int length = n;
            if (n == most) {
                taken(what, n, x, take);
                Check.due("the tape is empty", 0, x.count(1));
            } else {
                Check.noNumber(x, what + " with " + n, () -> take.go(x, length));
                Check.due("the tape stays", 600, x.count(1));
            }
        }
    }

    private static void longTexts() {
        longText("table(n) of 600", 600, (x, n) -> x.table(n));
        longText("plan(1, n) of 600", 150, (x, n) -> x.plan(1, n));
        longText("guess(1, n) of 600", 150, (x, n) -> x.guess(1, n));
        longText("book(n) of 600", 120, (x, n) -> x.book(n));
    }

    private static void players() {
        player("plan", (x, n) -> x.plan(n, 5));
        player("guess", (x, n) -> x.guess(n, 5));
        player("player", (x, n) -> x.player(n, 0));
        player("row", (x, n) -> x.row(n, 0));
        player("heap", (x, n) -> x.heap(n, 0));
        player("lain", (x, n) -> x.lain(n, 0));
        player("would", (x, n) -> x.would(n, 0));
        player("calls", (x, n) -> x.calls(n, 0));
        player("won", (x, n) -> x.won(n));
        player("chance, player", (x, n) -> x.chance(n, 0, 0));
        player("chance, watcher", (x, n) -> x.chance(0, n, 0));
        player("remember", (x, n) -> x.remember(n, 1, 0));
        player("odds", (x, n) -> x.odds(n, 1, 0));
    }

    private static void whats() {
        ask("told", 0, 8, (x, n) -> x.told(n));
        ask("player, what", 0, 7, (x, n) -> x.player(1, n));
        ask("would, what", 0, 1, (x, n) -> x.would(1, n));
        ask("latest", 0, 4, (x, n) -> x.latest(n));
        ask("calls, kind", 0, 5, (x, n) -> x.calls(2, n));
        ask("ends", 0, 3, (x, n) -> x.ends(n));
        ask("chance, what", 0, 1, (x, n) -> x.chance(1, 2, n));
        ask("rests, what", 0, 1, (x, n) -> x.rests(9, n));
        ask("remember, what", 0, 1, (x, n) -> x.remember(0, 2, n));
        ask("odds, what", 0, 1, (x, n) -> x.odds(0, 5, n));
        ask("lot, what", 0, 5, (x, n) -> x.lot(3, 2, n));
        ask("film, what", 0, 2, (x, n) -> x.film(0, 5, 3, 9, n));
        ask("laws, what", 0, 1, (x, n) -> x.laws(5, n));
        ask("entry, what", 0, 1, (x, n) -> x.entry(0, n));
        ask("entry, what, of no line", 0, 1, (x, n) -> x.entry(-1, n));
    }

    private static void turns() {
        number("law, which", 0, 2, (x, n) -> x.law(n, 1));
        number("law, is", 0, 2, (x, n) -> x.law(1, n));
        number("play", 1, 999, (x, n) -> x.play(n));
        number("undo", 1, 999, (x, n) -> x.undo(n));
    }

    private static void wagers() {
        ask("waits, up to low", 0, 7, (x, n) -> x.waits(n, 7, 3, 4));
        ask("waits, up to 99", 0, 99, (x, n) -> x.waits(n, 99, 3, 4));
        ask("waits, low from up on", 5, 99, (x, n) -> x.waits(5, n, 3, 4));
        ask("waits, low", 1, 99, (x, n) -> x.waits(0, n, 3, 4));
        ask("waits, g", 0, 99, (x, n) -> x.waits(5, 9, n, 4));
        ask("waits, c", 0, 99, (x, n) -> x.waits(5, 9, 3, n));
        ask("ahead, up to low", 0, 7, (x, n) -> x.ahead(n, 7, 3, 4));
        ask("ahead, up to 99", 0, 99, (x, n) -> x.ahead(n, 99, 3, 4));
        ask("ahead, low from up on", 5, 99, (x, n) -> x.ahead(5, n, 3, 4));
        ask("ahead, low", 1, 99, (x, n) -> x.ahead(0, n, 3, 4));
        ask("ahead, g", 0, 99, (x, n) -> x.ahead(5, 9, n, 4));
        ask("ahead, c", 0, 99, (x, n) -> x.ahead(5, 9, 3, n));
    }

    private static void games() {
        ask("moments, one", 0, 2, (x, n) -> x.moments(n, 0, 3));
        ask("moments, other", 0, 2, (x, n) -> x.moments(0, n, 3));
        ask("moments, c", 0, 99, (x, n) -> x.moments(1, 2, n));
        ask("rests, c", 0, 99, (x, n) -> x.rests(n, 1));
        ask("remember, k", 0, 4, (x, n) -> x.remember(1, n, 0));
        ask("odds, n", 0, 12, (x, n) -> x.odds(1, n, 0));
        ask("lot, many", 1, 20, (x, n) -> x.lot(5, n, 0));
        ask("laws, which", 0, 8, (x, n) -> x.laws(n, 1));
    }

    private static void films() {
        ask("film, a to b", 0, 8, (x, n) -> x.film(n, 8, 2, 9, 0));
        ask("film, a to 99", 0, 99, (x, n) -> x.film(n, 99, 2, 9, 0));
        ask("film, b from a on", 7, 99, (x, n) -> x.film(7, n, 2, 9, 0));
        ask("film, b", 0, 99, (x, n) -> x.film(0, n, 2, 9, 0));
        ask("film, c to d", 0, 8, (x, n) -> x.film(2, 9, n, 8, 0));
        ask("film, c to 99", 0, 99, (x, n) -> x.film(2, 9, n, 99, 0));
        ask("film, d from c on", 7, 99, (x, n) -> x.film(2, 9, 7, n, 0));
        ask("film, d", 0, 99, (x, n) -> x.film(2, 9, 0, n, 0));
    }

    /** Numbers that nothing is refused for. */
    private static void numbersOfAllSizes() {
        int[] sizes = {Integer.MIN_VALUE, -1, 60, 600, Integer.MAX_VALUE};
        for (int i : sizes) {
            SnapHeaps x = full();
            Check.due("row, none such", -1, x.row(0, i));
            Check.due("heap, none such", -1, x.heap(0, i));
            Check.due("pool, none such", -1, x.pool(i));
            Check.due("lain, none such", -1, x.lain(0, i));
            Check.due("where, none such", -1, x.where(i));
            Check.due("entry, none such", -1, x.entry(i, 0));
            Check.due("entry, none such", -1, x.entry(i, 1));
            Check.due("status of another", -1, x.status(i));
            Check.due("count of another", -1, x.count(i));
            x.lot(i, 1, 0);
            Check.text("all is as it was", WHOLE, Whole.of(x));
            Check.due("no refusals", 0, x.status(0) + x.status(1));
            x.draws(i);
            x.shuffle(i);
            Check.due("a seed is never refused", 0, x.status(0) + x.status(1));
            Check.due("nor bytes", 40, x.feed(i, i, i, i, i));
        }
        Check.due("status 2", -1, full().status(2));
        Check.due("count 4", -1, full().count(4));
    }

    /** No such PLAYER is told ahead of a number that is wrong, too. */
    private static void playersComeFirst() {
        Call[] both = {x -> x.plan(3, 151), x -> x.plan(-1, -1), x -> x.guess(3, 151), x -> x.guess(-1, -1),
            x -> x.player(3, 8), x -> x.would(3, 2), x -> x.calls(3, 6), x -> x.chance(3, 0, 2), x -> x.chance(0, 3, 2),
            x -> x.remember(3, 5, 0), x -> x.remember(3, 0, 2), x -> x.odds(3, 13, 0), x -> x.odds(3, 0, 2)};
        for (int i = 0; i < both.length; i++) {
            Call call = both[i];
            String what = "no player and a wrong number, " + i;
            stays(what, x -> Check.noPlayer(x, what, () -> call.go(x)));
        }
    }

    private static void countedOnceEach() {
        SnapHeaps x = full();
        for (int i = 1; i <= 50; i++) {
            Check.noNumber(x, "two wrong numbers", () -> x.law(3, 3));
            Check.due("status 1", i, x.status(1));
        }
        SnapHeaps y = full();
        for (int i = 1; i <= 50; i++) {
            Check.noPlayer(y, "two who are none", () -> y.chance(3, -1, 0));
            Check.due("status 0", i, y.status(0));
        }
    }

    private static void asksChangeNothing() {
        ASKS.add(x -> x.fault());
        ASKS.add(x -> x.row(1, 0));
        ASKS.add(x -> x.heap(1, 0));
        ASKS.add(x -> x.pool(0));
        ASKS.add(x -> x.lain(1, 0));
        ASKS.add(x -> x.alike());
        ASKS.add(x -> x.would(2, 1));
        ASKS.add(x -> x.won(2));
        ASKS.add(x -> x.where(0));
        ASKS.add(x -> x.where(59));
        ASKS.add(x -> x.chance(2, 2, 0));
        ASKS.add(x -> x.right());
        ASKS.add(x -> x.status(0));
        ASKS.add(x -> x.count(0));
        ASKS.add(x -> x.lot(Integer.MAX_VALUE, 20, 4));
        for (int i = 0; i < ASKS.size(); i++) {
            stays("ask " + i, ASKS.get(i));
        }
    }

    /** Calls that are not refused, but answer that they did nothing. */
    private static void nothingToDo() {
        SnapHeaps x = full();
        for (int i = 0; i < 29; i++) {
            x.feed(0x61616161, 0x61616161, 0x61616161, 0x61616161, 0x61616161);
        }
        Check.due("620 bytes would be more than 600", -1, x.feed(1, 2, 3, 4, 5));
        Check.due("doing nothing", 600, x.count(1));
        Check.due("the first 13 bytes are as they were", 1, x.plan(2, TAPE));
        SnapHeaps y = full();
        Check.due("two images", 2, y.image());
        Check.due("three images", 3, y.image());
        String before = Whole.of(y);
        Check.due("there are 3", -1, y.image());
        Check.text("no fourth", before, Whole.of(y));
        SnapHeaps z = full();
        z.restore();
        before = Whole.of(z);
        Check.due("there is no image", -1, z.restore());
        Check.text("nothing is restored", before, Whole.of(z));
        SnapHeaps v = full();
        v.undo(5);
        before = Whole.of(v);
        Check.due("no turn to undo", 0, v.undo(999));
        Check.text("none is undone", before, Whole.of(v));
        SnapHeaps w = over();
        before = Whole.of(w);
        Check.due("nobody has a turn", 0, w.play(999));
        Check.text("nothing is played", before, Whole.of(w));
        Check.due("what was played can be undone", 2, w.undo(999));
    }

    private static SnapHeaps over() {
        SnapHeaps x = new SnapHeaps();
        Texts.table(x, "player 1 1 0 0;player 1 1 0 1;row 0 a;row 1 a;");
        Check.due("two turns", 2, x.play(3));
        Check.due("it is over", -1, x.told(3));
        return x;
    }

    /** All but the TAPE (and the place of the FAULT) stays. */
    private static void faultsLetAllStay() {
        String[] texts = {"table:player 1 1 1 1;player 1 1 1 1;row 0 abc;tie 1;moment 1;moment 1;open 0 4;", "table:",
            "table:player 1 1 1 1;", "plan:row<9 or", "plan:", "plan:[[[[[[[mine]]]]]]]", "guess:row<9 or", "guess:",
            "guess:turn 7 7", "book:1 1;2 2;3", "book:0 0;0 3;", "book:" + "0 0;".repeat(13)};
        for (String row : texts) {
            int colon = row.indexOf(':');
            String text = row.substring(colon + 1);
            SnapHeaps x = midst();
            int answer = tell(x, row.substring(0, colon), text);
            Check.holds("a fault: " + row, answer >= -9 && answer <= -6);
            Check.holds("its place: " + row, x.fault() >= 0 && x.fault() <= text.length());
            Check.due("no bytes: " + row, 0, x.count(1));
            Check.due("no refusal: " + row, 0, x.status(0) + x.status(1));
            SnapHeaps same = midst();
            Check.text(row, Whole.of(same).replace("fault -1", "fault " + x.fault()), Whole.of(x));
            SnapHeaps y = midst();
            tell(y, row.substring(0, colon), text);
            Texts.feed(y, "alike or know");
            Check.text(row + ": all goes on as it did", LATER, later(y));
        }
    }

    private static int tell(SnapHeaps x, String kind, String text) {
        switch (kind) {
            case "table":
                return Texts.table(x, text);
            case "plan":
                return Texts.plan(x, 1, text);
            case "guess":
                return Texts.guess(x, 2, text);
            default:
                return Texts.book(x, text);
        }
    }
}
