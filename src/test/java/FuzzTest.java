import java.util.Random;

/** Runs of calls by lot, the same ones each time: the class against the Model. */
public final class FuzzTest {
    private static final int RUNS = 2000;
    /** What the comparison at the end, and one act more, may take of an object's 512 calls. */
    private static final int KEPT = 250 + 100;

    private final Random lot;
    private final Both both;
    private final int kinds;
    private int told;

    private FuzzTest(int run) {
        lot = new Random(1000L + run);
        both = new Both("run " + run);
        kinds = 1 + lot.nextInt(lot.nextInt(3) == 0 ? 15 : 4);
    }

    public static void main(String[] args) {
        int runs = args.length > 0 ? Integer.parseInt(args[0]) : RUNS;
        int from = args.length > 1 ? Integer.parseInt(args[1]) : 0;
        for (int run = from; run < from + runs; run++) {
            new FuzzTest(run).go();
        }
        if (Both.wrong > 0) {
            System.exit(1);
        }
        System.out.println("class and model agree in " + runs + " runs");
    }

    private void go() {
        int peeks = lot.nextInt(3);
        for (int i = 0; both.callsLeft() > KEPT && !both.parted; i++) {
            act(i);
            for (int k = 0; k < peeks; k++) {
                both.peek(lot.nextInt(13), lot.nextInt(lot.nextInt(4) == 0 ? 60 : 12));
            }
        }
        both.compare();
    }

    private int upTo(int most) {
        return lot.nextInt(most + 1);
    }

    /** Mostly in range, at times just beside it. */
    private int near(int least, int most) {
        int chance = lot.nextInt(100);
        return chance == 0 ? least - 1 : chance == 1 ? most + 1 : least + lot.nextInt(most - least + 1);
    }

    private int man() {
        return near(0, Math.max(0, both.asked("told", 0) - 1));
    }

    private static final String[] FACE = {"table1", "plan2", "guess2", "book1", "fault0", "told1", "player2", "row2",
        "heap2", "pool1", "lain2", "alike0", "would2", "law2", "play1", "undo1", "latest1", "calls2", "won1", "ends1",
        "where1", "chance3", "waits4", "ahead4", "moments3", "rests2", "remember3", "odds3", "lot3", "film5", "laws2",
        "right0", "entry2", "status1", "count1"};
    private static final int[] WILD = {Integer.MIN_VALUE, -1000000, -2, -1, 0, 0, 0, 1, 1, 1, 2, 2, 3, 4, 12, 13, 20, 21,
        60, 99, 100, 600, 999, 1000, 65536, Integer.MAX_VALUE - 1, Integer.MAX_VALUE};

    /** Any calls with any numbers. */
    private void callWildly() {
        for (int i = 0; i < 30; i++) {
            String method = FACE[lot.nextInt(FACE.length)];
            int last = method.length() - 1;
            int[] args = new int[method.charAt(last) - '0'];
            for (int k = 0; k < args.length; k++) {
                args[k] = WILD[lot.nextInt(WILD.length)];
            }
            both.act(method.substring(0, last), args);
        }
    }

    private void act(int i) {
        boolean bare = both.asked("told", 0) == 0 && lot.nextInt(3) > 0;
        int which = i == 0 || bare ? 0 : lot.nextInt(100);
        if (which < 5) {
            both.text("table", lot.nextInt(2) == 0 ? tableText() : spoil(tableText()), SnapHeaps.NONE);
        } else if (which < 16) {
            both.text(lot.nextInt(2) == 0 ? "plan" : "guess", spoil(planText(lot.nextInt(9))), man());
        } else if (which < 22) {
            both.text("book", spoil(bookText()), SnapHeaps.NONE);
        } else if (which < 27) {
            both.act("law", near(0, 2), near(0, 2));
        } else if (which < 30) {
            both.act("draws", lot.nextInt());
        } else if (which < 32) {
            both.act("still");
        } else if (which < 34) {
            both.act("shuffle", lot.nextInt());
        } else if (which < 52) {
            both.act("play", lot.nextInt(8) == 0 ? near(1, 999) : near(1, 9));
        } else if (which < 62) {
            both.act("undo", lot.nextInt(8) == 0 ? near(1, 999) : near(1, 12));
        } else if (which < 66) {
            both.act("image");
        } else if (which < 69) {
            both.act("restore");
        } else if (which < 71) {
            both.act("feed", lot.nextInt(), lot.nextInt(), lot.nextInt(), lot.nextInt(), lot.nextInt());
        } else if (which == 99) {
            callWildly();
        } else {
            ask(which - 71);
        }
    }

    private void ask(int which) {
        if (which < 6) {
            for (int what = -1; what <= 4; what++) {
                both.act("ends", what);
            }
        } else if (which < 9) {
            for (int i = -1; i <= 60; i++) {
                both.call("where", i);
            }
        } else if (which < 12) {
            for (int i = 0; i < 9; i++) {
                both.act("chance", i / 3, i % 3, near(0, 1));
                both.act("chance", i / 3, i % 3, near(0, 1));
            }
        } else if (which < 16) {
            wager();
        } else if (which < 19) {
            for (int what = 0; what < 2; what++) {
                both.act("remember", man(), near(0, 4), near(0, 1));
            }
        } else if (which < 23) {
            both.act("odds", man(), near(0, 12), near(0, 1));
            both.act("odds", man(), near(0, 12), near(0, 1));
        } else if (which < 25) {
            int seed = lot.nextInt();
            int many = near(1, 20);
            for (int what = -1; what <= 6; what++) {
                both.act("lot", seed, Math.min(many, 3), what);
            }
            both.act("lot", seed, many, near(0, 5));
        } else {
            for (int law = -1; law <= 9; law++) {
                both.act("laws", law, near(0, 1));
            }
        }
    }

    private void wager() {
        int low = near(1, 99);
        int up = near(0, Math.max(0, low));
        both.act("waits", up, low, near(0, 99), near(0, 99));
        both.act("ahead", up, low, near(0, 99), near(0, 99));
        int b = near(0, 99);
        int d = near(0, 99);
        both.act("film", near(0, Math.max(0, b)), b, near(0, Math.max(0, d)), d, near(0, 2));
        int moments = both.asked("told", 8);
        both.act("moments", near(0, moments), near(0, moments), near(0, 99));
        both.act("rests", near(0, 99), near(0, 1));
    }

    private String tableText() {
        StringBuilder t = new StringBuilder();
        told = 0;
        int players = lot.nextInt(12) == 0 ? lot.nextInt(5) : 2 + lot.nextInt(2);
        for (int p = 0; p < players; p++) {
            t.append("player").append(gap()).append(near(1, 9)).append(' ');
            t.append(lot.nextInt(3) == 0 ? 0 : near(0, 60)).append(' ');
            t.append(near(0, 5)).append(' ').append(near(0, 2)).append(gap()).append(';');
        }
        int more = lot.nextInt(10) == 0 ? 30 + lot.nextInt(12) : lot.nextInt(14);
        for (int i = 0; i < players + more; i++) {
            clause(t, i < players || told < 50 && lot.nextInt(9) == 0 ? 0 : 1 + lot.nextInt(7), i < players ? i : lot.nextInt(Math.max(1, players)));
        }
        t.append(gap());
        return t.toString();
    }

    private void clause(StringBuilder t, int which, int p) {
        String[] words = {"row", "pace", "false", "tie", "pool", "open", "moment", "open"};
        t.append(gap()).append(words[which]).append(gap());
        if (which == 0) {
            t.append(p).append(gap());
            int cards = 1 + lot.nextInt(lot.nextInt(6) == 0 ? 40 : 12);
            cards = lot.nextInt(12) == 0 ? cards : Math.max(1, Math.min(cards, 60 - told));
            told += cards;
            for (int i = 0; i < cards; i++) {
                t.append((char) ('a' + lot.nextInt(kinds)));
            }
        } else if (which == 1) {
            t.append(p).append(' ').append(near(1, 9));
        } else if (which == 5 || which == 7) {
            t.append(p).append(' ').append(lot.nextInt(lot.nextInt(6) == 0 ? 9 : 2));
        } else {
            t.append(which == 6 ? near(0, 9) : near(0, 2));
        }
        t.append(gap()).append(';');
    }

    private String gap() {
        return lot.nextInt(4) == 0 ? "  ".substring(lot.nextInt(2)) : "";
    }

    private String planText(int depth) {
        int which = depth <= 0 ? lot.nextInt(12) : lot.nextInt(depth > 5 ? 26 : 19);
        if (which == 12 || which == 13) {
            return planText(depth - 1) + " or " + planText(depth - 1);
        }
        if (which == 14 || which == 15) {
            return planText(depth - 1) + " and " + planText(depth - 1);
        }
        if (which == 16) {
            return "not " + gap() + planText(depth - 1);
        }
        if (which > 16) {
            return "[" + gap() + planText(depth - 1) + gap() + "]";
        }
        return gap() + factText(which) + gap();
    }

    private String factText(int which) {
        char kind = (char) ('a' + lot.nextInt(kinds));
        int by = 1 + lot.nextInt(lot.nextInt(4) == 0 ? 60 : 7);
        switch (which) {
            case 0:
            case 1:
                return "alike";
            case 2:
                return "mine";
            case 3:
                return "top " + kind;
            case 4:
                return "near " + kind;
            case 5:
            case 6:
                return "know";
            case 7:
                return "heap" + gap() + (lot.nextBoolean() ? "<" : ">") + gap() + near(0, 6);
            case 8:
                return "row" + gap() + (lot.nextBoolean() ? "<" : ">") + gap() + near(0, 9);
            case 9:
                return "pool > " + near(0, 5);
            default:
                return "turn " + by + " " + lot.nextInt(by);
        }
    }

    private String bookText() {
        StringBuilder t = new StringBuilder();
        int lines = lot.nextInt(lot.nextInt(3) == 0 ? 60 : 14);
        int turns = both.asked("told", 2);
        for (int i = 0; i < lines; i++) {
            int turn = Math.max(0, near(0, turns + 1));
            int winner = lot.nextInt(12) == 0 ? SnapHeaps.NONE : both.winnerOf(turn);
            if (winner == SnapHeaps.NONE && lot.nextInt(8) > 0) {
                continue;
            }
            winner = winner == SnapHeaps.NONE ? lot.nextInt(3) : winner;
            t.append(gap()).append(turn).append(' ').append(winner).append(gap()).append(';');
        }
        return t.toString();
    }

    /** At times a text with a byte that is another one, one less or one more, or with its end cut. */
    private String spoil(String text) {
        if (lot.nextInt(4) != 0 || text.isEmpty()) {
            return text;
        }
        String signs = "apo[];<> 0129z\n\u00e9NnotorandQrow";
        StringBuilder t = new StringBuilder(text);
        for (int i = 1 + lot.nextInt(2); i > 0 && t.length() > 0; i--) {
            int at = lot.nextInt(t.length());
            char sign = signs.charAt(lot.nextInt(signs.length()));
            switch (lot.nextInt(4)) {
                case 0:
                    t.setCharAt(at, sign);
                    break;
                case 1:
                    t.deleteCharAt(at);
                    break;
                case 2:
                    t.insert(at, sign);
                    break;
                default:
                    t.setLength(t.length() - Math.min(t.length(), lot.nextInt(5)));
            }
        }
        return t.toString();
    }
}
