/** All that an object answers (but how many calls it has refused) in one text: what has to stay, if a call does nothing. */
final class Whole {
    private Whole() {
    }

    /** Some 200 calls for three PLAYERS with five cards each. */
    static String of(SnapHeaps x) {
        StringBuilder all = new StringBuilder(now(x));
        all.append(" fault ").append(x.fault()).append(" counts");
        for (int what = 0; what <= 3; what++) {
            all.append(' ').append(x.count(what));
        }
        all.append(" book");
        for (int i = 0; i < x.count(2); i++) {
            all.append(' ').append(x.entry(i, 0)).append(' ').append(x.entry(i, 1));
        }
        return all.append(" right ").append(x.right()).toString();
    }

    /** Likewise, but the TAPE, the BOOK, and what can be undone. */
    static String now(SnapHeaps x) {
        StringBuilder all = new StringBuilder(Ask.board(x));
        add(all, " told", Ask.tolds(x));
        add(all, " latest", Ask.latest(x));
        add(all, " ends", Ask.ends(x));
        all.append(" alike ").append(x.alike()).append(" where ").append(x.where(0)).append(' ').append(x.where(1));
        all.append(" rests ").append(x.rests(3, 0));
        for (int p = 0; p < x.told(0); p++) {
            add(all, " player", Ask.men(x, p));
            add(all, " calls", Ask.calls(x, p));
            all.append(" won ").append(x.won(p)).append(" would ").append(x.would(p, 0)).append(x.would(p, 1));
            all.append(" chance ").append(x.chance(p, 0, 0)).append('/').append(x.chance(p, 0, 1));
        }
        return all.toString();
    }

    private static void add(StringBuilder all, String what, int[] answers) {
        all.append(what);
        for (int answer : answers) {
            all.append(' ').append(answer);
        }
    }
}
