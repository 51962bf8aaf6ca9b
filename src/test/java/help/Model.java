import java.math.BigInteger;
import java.util.ArrayList;
import java.util.Collections;
import java.util.HashMap;
import java.util.List;
import java.util.Map;
import java.util.NoSuchElementException;
import java.util.TreeSet;

/** The document once more, told as slowly and as plainly as can be: what SnapHeaps is held against. */
final class Model {
    static final int NONE = -1;

    /** A FAULT of a text, at a byte. */
    static final class Fault extends Exception {
        private static final long serialVersionUID = 1L;
        final int number;
        final int at;

        Fault(int number, int at) {
            this.number = number;
            this.at = at;
        }
    }

    static final class Card {
        final int kind;
        boolean lain;

        Card(int kind, boolean lain) {
            this.kind = kind;
            this.lain = lain;
        }

        public String toString() {
            return (char) ('a' + kind) + (lain ? "!" : "");
        }
    }

    static final class Man {
        int q, m, d, e, pace = 5;
        List<Card> row = new ArrayList<>();
        List<Card> heap = new ArrayList<>();
        Node plan;
        Node guess;
        int[] calls = new int[6];
        int won;

        boolean out() {
            return row.isEmpty() && heap.isEmpty();
        }

        int top() {
            return heap.isEmpty() ? NONE : heap.get(heap.size() - 1).kind;
        }

        Man copy() {
            Man c = new Man();
            c.q = q;
            c.m = m;
            c.d = d;
            c.e = e;
            c.pace = pace;
            c.row = cards(row);
            c.heap = cards(heap);
            c.plan = plan;
            c.guess = guess;
            c.calls = calls.clone();
            c.won = won;
            return c;
        }
    }

    static List<Card> cards(List<Card> from) {
        List<Card> to = new ArrayList<>();
        for (Card c : from) {
            to.add(new Card(c.kind, c.lain));
        }
        return to;
    }

    /** All that a TURN may change, and the LAWS and weights beside it. */
    static final class State {
        List<Man> men = new ArrayList<>();
        List<Card> pool = new ArrayList<>();
        List<Integer> weights = new ArrayList<>();
        int lawFalse, lawTie, lawPool;
        int turn;
        int upNext;
        boolean drawn;
        int seed;
        int[] latest;
        List<Integer> winners = new ArrayList<>();

        State copy() {
            State c = new State();
            for (Man m : men) {
                c.men.add(m.copy());
            }
            c.pool = cards(pool);
            c.weights = new ArrayList<>(weights);
            c.lawFalse = lawFalse;
            c.lawTie = lawTie;
            c.lawPool = lawPool;
            c.turn = turn;
            c.upNext = upNext;
            c.drawn = drawn;
            c.seed = seed;
            c.latest = latest == null ? null : latest.clone();
            c.winners = new ArrayList<>(winners);
            return c;
        }

        int whose() {
            int in = 0;
            for (Man m : men) {
                in += m.out() ? 0 : 1;
            }
            if (in < 2) {
                return NONE;
            }
            int who = upNext;
            while (men.get(who % men.size()).out()) {
                who++;
            }
            return who % men.size();
        }

        int nextAfter(int p) {
            for (int i = 1; i < men.size(); i++) {
                int who = (p + i) % men.size();
                if (!men.get(who).out()) {
                    return who;
                }
            }
            return NONE;
        }

        int alike() {
            for (int a = 0; a < men.size(); a++) {
                for (int b = a + 1; b < men.size(); b++) {
                    if (men.get(a).top() != NONE && men.get(a).top() == men.get(b).top()) {
                        return 10 * a + b;
                    }
                }
            }
            return NONE;
        }

        boolean mine(int p) {
            for (int a = 0; a < men.size(); a++) {
                if (a != p && men.get(p).top() != NONE && men.get(a).top() == men.get(p).top()) {
                    return true;
                }
            }
            return false;
        }

        int count(int p) {
            return men.get(p).row.size() + men.get(p).heap.size();
        }

        void turnOver(int p) {
            Man m = men.get(p);
            if (m.row.isEmpty()) {
                m.row.addAll(m.heap);
                m.heap.clear();
            }
        }

        boolean lay(int p) {
            Card c = men.get(p).row.remove(0);
            boolean had = c.lain;
            c.lain = true;
            men.get(p).heap.add(c);
            return had;
        }

        int win(int p, int pair) {
            List<Card> gain = new ArrayList<>();
            int kind = men.get(pair / 10).top();
            for (int x : new int[] {pair / 10, pair % 10}) {
                gain.addAll(men.get(x).heap);
                men.get(x).heap.clear();
            }
            boolean too = lawPool == 2
                || lawPool == 1 && !pool.isEmpty() && pool.get(pool.size() - 1).kind == kind;
            if (too) {
                gain.addAll(pool);
                pool.clear();
            }
            men.get(p).row.addAll(gain);
            return gain.size();
        }

        int draw() {
            seed = seed * 1103515245 + 12345;
            return seed >>> 16 & 3;
        }

        /** One TURN without any calls. */
        boolean bareTurn() {
            int who = whose();
            if (who == NONE) {
                return false;
            }
            turnOver(who);
            lay(who);
            turn++;
            upNext = (who + 1) % men.size();
            return true;
        }

        boolean fullTurn() {
            int who = whose();
            if (who == NONE) {
                return false;
            }
            turnOver(who);
            Map<Integer, Integer> delays = new HashMap<>();
            for (int p = 0; p < men.size(); p++) {
                Man m = men.get(p);
                if (!m.out() && m.guess != null && m.guess.holds(this, p, who)) {
                    delays.put(p, -1);
                }
            }
            boolean hadLain = lay(who);
            List<Integer> callers = new ArrayList<>();
            for (int p = 0; p < men.size(); p++) {
                Man m = men.get(p);
                boolean wants = m.plan == null ? alike() != NONE : m.plan.holds(this, p, nextAfter(who));
                if (!delays.containsKey(p) && !m.out() && wants) {
                    callers.add(p);
                }
            }
            for (int p : callers) {
                Man m = men.get(p);
                int delay = m.d;
                if (m.e != who) {
                    delay++;
                }
                if (drawn) {
                    delay += draw();
                }
                if (delay >= men.get(who).pace) {
                    m.calls[5]++;
                } else {
                    delays.put(p, delay);
                }
            }
            settle(delays, hadLain);
            turn++;
            upNext = (who + 1) % men.size();
            return true;
        }

        private void settle(Map<Integer, Integer> delays, boolean hadLain) {
            int pair = alike();
            int winner = NONE;
            int first = NONE;
            int gained = 0;
            if (!delays.isEmpty()) {
                int least = Collections.min(delays.values());
                List<Integer> firsts = new ArrayList<>();
                for (int p = 0; p < men.size(); p++) {
                    if (delays.containsKey(p) && delays.get(p) == least) {
                        firsts.add(p);
                    }
                }
                if (firsts.size() == 1 || lawTie == 0) {
                    first = firsts.get(0);
                } else {
                    for (int p : firsts) {
                        men.get(p).calls[4]++;
                    }
                    if (lawTie == 2 && pair != NONE) {
                        pool.addAll(men.get(pair / 10).heap);
                        men.get(pair / 10).heap.clear();
                        pool.addAll(men.get(pair % 10).heap);
                        men.get(pair % 10).heap.clear();
                    }
                }
            }
            if (first != NONE && pair != NONE) {
                winner = first;
                Man m = men.get(first);
                if (delays.get(first) >= 0) {
                    m.calls[0]++;
                } else if (hadLain && m.m >= 1) {
                    m.calls[2]++;
                } else {
                    m.calls[1]++;
                }
                gained = win(first, pair);
                m.won += gained;
            } else if (first != NONE) {
                men.get(first).calls[3]++;
                penalty(first);
            }
            latest = new int[] {winner, first, first == NONE ? 0 : delays.get(first), delays.size(), gained};
            winners.add(winner);
        }

        private void penalty(int first) {
            Man m = men.get(first);
            if (lawFalse == 0 && nextAfter(first) != NONE) {
                men.get(nextAfter(first)).row.addAll(m.heap);
                m.heap.clear();
            } else if (lawFalse == 1) {
                if (!m.row.isEmpty()) {
                    pool.add(m.row.remove(0));
                } else if (!m.heap.isEmpty()) {
                    pool.add(m.heap.remove(m.heap.size() - 1));
                }
            }
        }

        void shuffle(int with) {
            for (Man m : men) {
                for (int i = m.row.size() - 1; i >= 1; i--) {
                    with = with * 1103515245 + 12345;
                    Collections.swap(m.row, i, (with >>> 16 & 0x7fff) % (i + 1));
                }
            }
        }

        /** Who is left, how many TURNS, 1 over 2 ROUND 0 too long, after how many it is so again. */
        int[] ends() {
            TreeSet<Integer> parts = new TreeSet<>();
            for (Man m : men) {
                if (m.plan != null) {
                    m.plan.parts(parts);
                }
                if (m.guess != null) {
                    m.guess.parts(parts);
                }
            }
            Map<String, Integer> seen = new HashMap<>();
            for (int t = 0;; t++) {
                if (whose() == NONE) {
                    int left = NONE;
                    for (int p = 0; p < men.size(); p++) {
                        left = men.get(p).out() ? left : p;
                    }
                    return new int[] {left, t, 1, 0};
                }
                StringBuilder key = new StringBuilder();
                for (Man m : men) {
                    key.append(m.row).append(m.heap);
                }
                key.append(pool).append(whose()).append('/').append(drawn ? seed : 0);
                for (int by : parts) {
                    key.append(' ').append(turn % by);
                }
                Integer before = seen.put(key.toString(), t);
                if (before != null) {
                    return new int[] {NONE, t, 2, t - before};
                }
                if (t == 3000) {
                    return new int[] {NONE, t, 0, 0};
                }
                fullTurn();
            }
        }
    }

    /** A part of a PLAN. */
    static final class Node {
        String op;
        int one, other;
        Node left, right;

        Node(String op, int one, int other) {
            this.op = op;
            this.one = one;
            this.other = other;
        }

        Node(String op, Node left, Node right) {
            this.op = op;
            this.left = left;
            this.right = right;
        }

        void parts(TreeSet<Integer> into) {
            if (op.equals("turn")) {
                into.add(one);
            }
            if (left != null) {
                left.parts(into);
            }
            if (right != null) {
                right.parts(into);
            }
        }

        boolean holds(State s, int p, int layer) {
            Man m = s.men.get(p);
            switch (op) {
                case "or":
                    return left.holds(s, p, layer) || right.holds(s, p, layer);
                case "and":
                    return left.holds(s, p, layer) && right.holds(s, p, layer);
                case "not":
                    return !left.holds(s, p, layer);
                case "alike":
                    return s.alike() != NONE;
                case "mine":
                    return s.mine(p);
                case "top":
                    return m.top() == one;
                case "near":
                    return !m.row.isEmpty() && m.row.get(0).kind == one && remembers(m, m.row, 0);
                case "know":
                    return knows(s, m, layer);
                case "heap<":
                    return m.heap.size() < one;
                case "heap>":
                    return m.heap.size() > one;
                case "row<":
                    return m.row.size() < one;
                case "row>":
                    return m.row.size() > one;
                case "pool>":
                    return s.pool.size() > one;
                default:
                    return s.turn % one == other;
            }
        }

        private static boolean knows(State s, Man m, int layer) {
            if (layer == NONE || s.men.get(layer).row.isEmpty() || !remembers(m, s.men.get(layer).row, 0)) {
                return false;
            }
            State then = s.copy();
            then.lay(layer);
            return then.alike() != NONE;
        }
    }

    static boolean remembers(Man m, List<Card> row, int i) {
        return i < row.size() && i < m.m && row.get(i).lain;
    }

    /** Words, numbers and signs of a text, each with the place where it begins. */
    static final class Tokens {
        final List<String> what = new ArrayList<>();
        final List<Integer> where = new ArrayList<>();
        final int length;
        int now;

        Tokens(List<Integer> bytes) {
            length = bytes.size();
            int i = 0;
            while (i < length) {
                int b = bytes.get(i);
                int j = i + 1;
                if (isLetter(b)) {
                    while (j < length && isLetter(bytes.get(j))) {
                        j++;
                    }
                } else if (isDigit(b)) {
                    while (j < length && isDigit(bytes.get(j))) {
                        j++;
                    }
                }
                if (b != 32) {
                    StringBuilder token = new StringBuilder();
                    for (int k = i; k < j; k++) {
                        token.append((char) (int) bytes.get(k));
                    }
                    what.add(token.toString());
                    where.add(i);
                }
                i = j;
            }
        }

        static boolean isLetter(int b) {
            return b >= 97 && b <= 122;
        }

        static boolean isDigit(int b) {
            return b >= 48 && b <= 57;
        }

        boolean atEnd() {
            return now >= what.size();
        }

        String see() {
            return atEnd() ? "" : what.get(now);
        }

        int at() {
            return atEnd() ? length : where.get(now);
        }

        boolean takes(String token) {
            if (see().equals(token)) {
                now++;
                return true;
            }
            return false;
        }

        void needs(String token) throws Fault {
            if (!takes(token)) {
                throw new Fault(1, at());
            }
        }

        int number(int least, int most) throws Fault {
            if (atEnd() || !isDigit(see().charAt(0))) {
                throw new Fault(1, at());
            }
            BigInteger value = new BigInteger(see());
            if (value.compareTo(BigInteger.valueOf(least)) < 0 || value.compareTo(BigInteger.valueOf(most)) > 0) {
                throw new Fault(2, at());
            }
            now++;
            return value.intValue();
        }

        int kind() throws Fault {
            if (see().length() != 1 || see().charAt(0) < 'a' || see().charAt(0) > 'o') {
                throw new Fault(1, at());
            }
            int kind = see().charAt(0) - 'a';
            now++;
            return kind;
        }
    }

    static State readTable(List<Integer> bytes) throws Fault {
        Tokens t = new Tokens(bytes);
        State s = new State();
        int clauses = 0;
        int all = 0;
        while (!t.atEnd()) {
            String word = t.see();
            int at = t.at();
            if (!List.of("player", "row", "pace", "false", "tie", "pool", "open", "moment").contains(word)) {
                throw new Fault(1, at);
            }
            boolean full = word.equals("player") && s.men.size() == 3
                || word.equals("moment") && s.weights.size() == 12;
            if (clauses == 40 || full) {
                throw new Fault(3, at);
            }
            t.now++;
            clauses++;
            if (word.equals("player")) {
                Man m = new Man();
                m.q = t.number(1, 9);
                m.m = t.number(0, 60);
                m.d = t.number(0, 9);
                m.e = t.number(0, 2);
                s.men.add(m);
            } else if (word.equals("row")) {
                Man m = s.men.get(toldMan(t, s));
                String run = t.see();
                if (t.atEnd() || !Tokens.isLetter(run.charAt(0))) {
                    throw new Fault(1, t.at());
                }
                for (int i = 0; i < run.length(); i++) {
                    if (run.charAt(i) > 'o') {
                        throw new Fault(1, t.at() + i);
                    }
                    if (all == 60) {
                        throw new Fault(3, t.at() + i);
                    }
                    m.row.add(new Card(run.charAt(i) - 'a', false));
                    all++;
                }
                t.now++;
            } else if (word.equals("pace")) {
                int p = toldMan(t, s);
                s.men.get(p).pace = t.number(1, 9);
            } else if (word.equals("open")) {
                Man m = s.men.get(toldMan(t, s));
                int n = t.number(0, m.row.size());
                for (int i = 0; i < n; i++) {
                    m.row.get(i).lain = true;
                }
            } else if (word.equals("moment")) {
                s.weights.add(t.number(0, 9));
            } else {
                int law = t.number(0, 2);
                s.lawFalse = word.equals("false") ? law : s.lawFalse;
                s.lawTie = word.equals("tie") ? law : s.lawTie;
                s.lawPool = word.equals("pool") ? law : s.lawPool;
            }
            t.needs(";");
        }
        if (s.men.size() < 2) {
            throw new Fault(4, t.length);
        }
        return s;
    }

    private static int toldMan(Tokens t, State s) throws Fault {
        return t.number(0, s.men.size() - 1);
    }

    static Node readPlan(List<Integer> bytes) throws Fault {
        Tokens t = new Tokens(bytes);
        Node n = readC(t, 0);
        if (!t.atEnd()) {
            throw new Fault(1, t.at());
        }
        return n;
    }

    private static Node readC(Tokens t, int open) throws Fault {
        Node n = readD(t, open);
        while (t.takes("or")) {
            n = new Node("or", n, readD(t, open));
        }
        return n;
    }

    private static Node readD(Tokens t, int open) throws Fault {
        Node n = readB(t, open);
        while (t.takes("and")) {
            n = new Node("and", n, readB(t, open));
        }
        return n;
    }

    private static Node readB(Tokens t, int open) throws Fault {
        String word = t.see();
        int at = t.at();
        if ((word.equals("not") || word.equals("[")) && open == 6) {
            throw new Fault(3, at);
        }
        t.now++;
        switch (word) {
            case "not":
                return new Node("not", readB(t, open + 1), null);
            case "[":
                Node inner = readC(t, open + 1);
                t.needs("]");
                return inner;
            case "alike":
            case "mine":
            case "know":
                return new Node(word, 0, 0);
            case "top":
            case "near":
                return new Node(word, t.kind(), 0);
            case "heap":
            case "row":
            case "pool":
                String sign = t.see();
                if (!sign.equals(">") && (!sign.equals("<") || word.equals("pool"))) {
                    throw new Fault(1, t.at());
                }
                t.now++;
                return new Node(word + sign, t.number(0, 60), 0);
            case "turn":
                int by = t.number(1, 60);
                return new Node("turn", by, t.number(0, by - 1));
            default:
                throw new Fault(1, at);
        }
    }

    static List<int[]> readBook(List<Integer> bytes, int players) throws Fault {
        Tokens t = new Tokens(bytes);
        List<int[]> lines = new ArrayList<>();
        while (!t.atEnd()) {
            int at = t.at();
            int turn = t.number(0, 9999);
            if (lines.size() == 12) {
                throw new Fault(3, at);
            }
            lines.add(new int[] {turn, t.number(0, players - 1)});
            t.needs(";");
        }
        return lines;
    }

    /** What an IMAGE keeps. */
    private static final class Kept {
        State state;
        List<Integer> tape;
        int fault;
    }

    private State now = new State();
    private final List<State> before = new ArrayList<>();
    private List<Integer> tape = new ArrayList<>();
    private List<int[]> book = new ArrayList<>();
    private final List<Kept> images = new ArrayList<>();
    private int fault = NONE;
    private int refusedPlayers;
    private int refusedNumbers;

    int winnerOf(int turn) {
        return turn >= 0 && turn < now.winners.size() ? now.winners.get(turn) : NONE;
    }

    private void man(int p) {
        if (p < 0 || p >= now.men.size()) {
            refusedPlayers++;
            throw new NoSuchElementException();
        }
    }

    private void fits(boolean so) {
        if (!so) {
            refusedNumbers++;
            throw new IllegalArgumentException();
        }
    }

    private List<Integer> text(int n) {
        List<Integer> text = new ArrayList<>(tape.subList(0, n));
        tape = new ArrayList<>();
        fault = NONE;
        return text;
    }

    private int failed(Fault f) {
        fault = f.at;
        return f.number - 10;
    }

    public int feed(int a, int b, int c, int d, int e) {
        if (tape.size() > 580) {
            return NONE;
        }
        for (int x : new int[] {a, b, c, d, e}) {
            tape.add(x >> 24 & 255);
            tape.add(x >> 16 & 255);
            tape.add(x >> 8 & 255);
            tape.add(x & 255);
        }
        return tape.size();
    }

    public int table(int n) {
        fits(n >= 0 && n <= tape.size());
        try {
            now = readTable(text(n));
            before.clear();
            book = new ArrayList<>();
            images.clear();
            return now.men.size();
        } catch (Fault f) {
            return failed(f);
        }
    }

    public int plan(int player, int n) {
        man(player);
        fits(n >= 0 && n <= tape.size() && n <= 150);
        try {
            now.men.get(player).plan = readPlan(text(n));
            before.clear();
            return 1;
        } catch (Fault f) {
            return failed(f);
        }
    }

    public int guess(int player, int n) {
        man(player);
        fits(n >= 0 && n <= tape.size() && n <= 150);
        try {
            now.men.get(player).guess = readPlan(text(n));
            before.clear();
            return 1;
        } catch (Fault f) {
            return failed(f);
        }
    }

    public int book(int n) {
        fits(n >= 0 && n <= tape.size() && n <= 120);
        try {
            book = readBook(text(n), now.men.size());
            return book.size();
        } catch (Fault f) {
            return failed(f);
        }
    }

    public int fault() {
        return fault;
    }

    public int told(int what) {
        fits(what >= 0 && what <= 8);
        int all = now.pool.size();
        for (int p = 0; p < now.men.size(); p++) {
            all += now.count(p);
        }
        return new int[] {now.men.size(), all, now.turn, now.whose(), now.pool.size(), now.lawFalse,
            now.lawTie, now.lawPool, now.weights.size()}[what];
    }

    public int player(int player, int what) {
        man(player);
        fits(what >= 0 && what <= 7);
        Man m = now.men.get(player);
        return new int[] {m.q, m.m, m.d, m.e, m.pace, m.row.size(), m.heap.size(), m.out() ? 1 : 0}[what];
    }

    private static int kind(List<Card> cards, int i) {
        return i < 0 || i >= cards.size() ? NONE : cards.get(i).kind;
    }

    public int row(int player, int i) {
        man(player);
        return kind(now.men.get(player).row, i);
    }

    public int heap(int player, int i) {
        man(player);
        return kind(now.men.get(player).heap, i);
    }

    public int pool(int i) {
        return kind(now.pool, i);
    }

    public int lain(int player, int i) {
        man(player);
        List<Card> row = now.men.get(player).row;
        return i < 0 || i >= row.size() ? NONE : row.get(i).lain ? 1 : 0;
    }

    public int alike() {
        return now.alike();
    }

    public boolean would(int player, int what) {
        man(player);
        fits(what == 0 || what == 1);
        Man m = now.men.get(player);
        if (what == 1) {
            return m.guess != null && m.guess.holds(now, player, now.whose());
        }
        return m.plan == null ? now.alike() != NONE : m.plan.holds(now, player, now.whose());
    }

    public int law(int which, int is) {
        fits(which >= 0 && which <= 2 && is >= 0 && is <= 2);
        before.clear();
        int was = which == 0 ? now.lawFalse : which == 1 ? now.lawTie : now.lawPool;
        now.lawFalse = which == 0 ? is : now.lawFalse;
        now.lawTie = which == 1 ? is : now.lawTie;
        now.lawPool = which == 2 ? is : now.lawPool;
        return was;
    }

    public void draws(int seed) {
        before.clear();
        now.drawn = true;
        now.seed = seed;
    }

    public int still() {
        before.clear();
        boolean was = now.drawn;
        now.drawn = false;
        return was ? 1 : 0;
    }

    public int play(int n) {
        fits(n >= 1 && n <= 999);
        for (int i = 0; i < n; i++) {
            State was = now.copy();
            if (!now.fullTurn()) {
                return i;
            }
            before.add(was);
        }
        return n;
    }

    public int undo(int n) {
        fits(n >= 1 && n <= 999);
        int many = 0;
        while (many < n && !before.isEmpty()) {
            now = before.remove(before.size() - 1);
            now.latest = null;
            many++;
        }
        return many;
    }

    public int latest(int what) {
        fits(what >= 0 && what <= 4);
        return now.latest == null ? NONE : now.latest[what];
    }

    public int calls(int player, int kind) {
        man(player);
        fits(kind >= 0 && kind <= 5);
        return now.men.get(player).calls[kind];
    }

    public int won(int player) {
        man(player);
        return now.men.get(player).won;
    }

    public int ends(int what) {
        fits(what >= 0 && what <= 3);
        return now.copy().ends()[what];
    }

    public int where(int i) {
        State s = now.copy();
        List<Integer> found = new ArrayList<>();
        for (int t = 0; t < 60 && s.bareTurn(); t++) {
            if (s.alike() != NONE) {
                found.add(t);
            }
        }
        return i >= 0 && i < found.size() ? found.get(i) : NONE;
    }

    public int chance(int player, int watcher, int what) {
        man(player);
        man(watcher);
        fits(what == 0 || what == 1);
        Man m = now.men.get(player);
        List<Card> from = m.row.isEmpty() ? m.heap : m.row;
        if (from.isEmpty()) {
            return what;
        }
        int hits = 0;
        for (Card c : from) {
            hits += hit(player, c) ? 1 : 0;
        }
        int of = from.size();
        if (remembers(now.men.get(watcher), m.row, 0)) {
            hits = hit(player, from.get(0)) ? 1 : 0;
            of = 1;
        }
        for (int x = of; x > 1; x--) {
            if (of % x == 0 && hits % x == 0) {
                of /= x;
                hits /= x;
            }
        }
        return what == 0 ? hits : of;
    }

    private boolean hit(int player, Card c) {
        for (int p = 0; p < now.men.size(); p++) {
            if (p != player && now.men.get(p).top() == c.kind) {
                return true;
            }
        }
        return false;
    }

    private void wager(int up, int low, int g, int c) {
        fits(low >= 1 && low <= 99 && up >= 0 && up <= low && g >= 0 && g <= 99 && c >= 0 && c <= 99);
    }

    public int waits(int up, int low, int g, int c) {
        wager(up, low, g, c);
        double ahead = up * g - (low - up) * c;
        int q = 0;
        while (q < 17 && q / 16.0 * up * g < ahead) {
            q++;
        }
        return q;
    }

    public int ahead(int up, int low, int g, int c) {
        wager(up, low, g, c);
        return up * g - low * c + up * c;
    }

    private int pay(int one, int other, int c) {
        int sum = 0;
        int never = now.weights.size();
        for (int m = 0; m < never; m++) {
            int w = now.weights.get(m);
            if (one == never) {
                sum += 0;
            } else if (one < m) {
                sum -= c * w;
            } else if (other == one) {
                sum += 5 * w;
            } else if (other < m || other > one || other == never) {
                sum += 10 * w;
            }
        }
        return sum;
    }

    public int moments(int one, int other, int c) {
        int most = now.weights.size();
        fits(one >= 0 && one <= most && other >= 0 && other <= most && c >= 0 && c <= 99);
        return pay(one, other, c);
    }

    public int rests(int c, int what) {
        fits(c >= 0 && c <= 99 && (what == 0 || what == 1));
        int most = now.weights.size();
        List<Integer> pairs = new ArrayList<>();
        for (int a = 0; a <= most; a++) {
            for (int b = 0; b <= most; b++) {
                boolean rest = true;
                for (int x = 0; x <= most; x++) {
                    rest &= pay(x, b, c) <= pay(a, b, c) && pay(x, a, c) <= pay(b, a, c);
                }
                if (rest) {
                    pairs.add(100 * a + b);
                }
            }
        }
        return what == 0 ? pairs.size() : pairs.isEmpty() ? NONE : pairs.get(0);
    }

    public int remember(int player, int k, int what) {
        man(player);
        fits(k >= 0 && k <= 4 && (what == 0 || what == 1));
        int best = -1;
        int bits = 0;
        for (int set = 0; set < 4096; set++) {
            if (Integer.bitCount(set) > k) {
                continue;
            }
            State s = now.copy();
            for (int t = 0; t < 12 && s.bareTurn(); t++) {
                int pair = s.alike();
                if (pair != NONE && (set >> t & 1) == 1 && !s.men.get(player).out()) {
                    s.win(player, pair);
                } else if (pair != NONE && (set >> t & 1) == 0) {
                    s.win(s.nextAfter(player), pair);
                }
            }
            if (s.count(player) > best) {
                best = s.count(player);
                bits = set;
            }
        }
        return what == 0 ? best : bits;
    }

    public long odds(int player, int n, int what) {
        man(player);
        fits(n >= 0 && n <= 12 && (what == 0 || what == 1));
        BigInteger[] f = odds(now.copy(), player, n);
        BigInteger by = f[0].gcd(f[1]);
        return f[what].divide(by).longValueExact();
    }

    private static BigInteger[] odds(State s, int player, int n) {
        if (n == 0 || !s.bareTurn()) {
            boolean most = true;
            for (int p = 0; p < s.men.size(); p++) {
                most &= p == player || s.count(p) < s.count(player);
            }
            return new BigInteger[] {most ? BigInteger.ONE : BigInteger.ZERO, BigInteger.ONE};
        }
        int pair = s.alike();
        if (pair == NONE) {
            return odds(s, player, n - 1);
        }
        int all = 0;
        for (Man m : s.men) {
            all += m.q;
        }
        BigInteger up = BigInteger.ZERO;
        BigInteger low = BigInteger.ONE;
        for (int p = 0; p < s.men.size(); p++) {
            State then = s.copy();
            if (!s.men.get(p).out()) {
                then.win(p, pair);
            }
            BigInteger[] f = odds(then, player, n - 1);
            BigInteger share = BigInteger.valueOf(s.men.get(p).q);
            up = up.multiply(f[1]).add(f[0].multiply(share).multiply(low));
            low = low.multiply(f[1]);
        }
        low = low.multiply(BigInteger.valueOf(all));
        BigInteger by = up.gcd(low);
        return new BigInteger[] {up.divide(by), low.divide(by)};
    }

    public void shuffle(int seed) {
        before.clear();
        now.shuffle(seed);
    }

    public int lot(int seed, int many, int what) {
        fits(many >= 1 && many <= 20 && what >= 0 && what <= 5);
        List<Integer> lengths = new ArrayList<>();
        int[] tell = new int[6];
        for (int i = 0; i < many; i++) {
            State s = now.copy();
            s.shuffle(seed + i);
            int[] e = s.ends();
            lengths.add(e[1]);
            if (e[0] != NONE) {
                tell[2 + e[0]]++;
            }
            tell[5] += e[2] == 1 ? 0 : 1;
        }
        tell[0] = Collections.min(lengths);
        tell[1] = Collections.max(lengths);
        return tell[what];
    }

    public int film(int a, int b, int c, int d, int what) {
        fits(a >= 0 && a <= b && b <= 99 && c >= 0 && c <= d && d <= 99 && what >= 0 && what <= 2);
        int[] tell = new int[3];
        for (int x = a; x <= b; x++) {
            for (int y = c; y <= d; y++) {
                tell[0] += x < y ? 1 : 0;
                tell[1] += x == y ? 1 : 0;
                tell[2]++;
            }
        }
        return tell[what];
    }

    public int laws(int which, int what) {
        fits(which >= 0 && which <= 8 && (what == 0 || what == 1));
        State s = now.copy();
        s.lawFalse = which / 3;
        s.lawTie = which % 3;
        return s.ends()[what];
    }

    public int right() {
        int lines = 0;
        for (int[] line : book) {
            if (line[0] >= now.winners.size() || now.winners.get(line[0]) != line[1]) {
                break;
            }
            lines++;
        }
        return lines;
    }

    public int entry(int i, int what) {
        fits(what == 0 || what == 1);
        return i < 0 || i >= book.size() ? NONE : book.get(i)[what];
    }

    public int image() {
        if (images.size() == 3) {
            return -1;
        }
        Kept k = new Kept();
        k.state = now.copy();
        k.tape = new ArrayList<>(tape);
        k.fault = fault;
        images.add(k);
        return images.size();
    }

    public int restore() {
        if (images.isEmpty()) {
            return -1;
        }
        Kept k = images.remove(images.size() - 1);
        now = k.state;
        now.latest = null;
        tape = k.tape;
        fault = k.fault;
        before.clear();
        return images.size();
    }

    public int status(int what) {
        return what == 0 ? refusedPlayers : what == 1 ? refusedNumbers : NONE;
    }

    public int count(int what) {
        return what == 0 ? images.size() : what == 1 ? tape.size() : what == 2 ? book.size()
            : what == 3 ? before.size() : NONE;
    }
}
