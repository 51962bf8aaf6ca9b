import java.util.Arrays;
import java.util.NoSuchElementException;

/** Snap, as ../shared/DOC.md tells it: a TABLE, PLANS, TURNS, and what is asked about them. */
public final class SnapHeaps {
    public static final int NONE = -1;

    private static final int MOST_PLAYERS = 3;
    private static final int MOST_CARDS = 60;
    private static final int MOST_MOMENTS = 12;
    private static final int KINDS_OF_CALLS = 6;
    private static final int STATE_LONGS = 7;

    private static final int QUICKNESS = 0;
    private static final int MEMORY = 1;
    private static final int DELAY = 2;
    private static final int EYES = 3;
    private static final int PACE = 4;

    private static final int LAW_FALSE = 0;
    private static final int LAW_TIE = 1;
    private static final int LAW_POOL = 2;

    private final Tape tape;
    private final Table table;
    private final Table tableDraft;
    private final Plan planDraft;
    private final Book book;
    private final Book bookDraft;
    private final Game game;
    private final Ends ends;
    private final Tree tree;
    private final History history;
    private final Image image0;
    private final Image image1;
    private final Image image2;
    private int images;
    private int unknownPlayers;
    private int wrongNumbers;

    public SnapHeaps() {
        tape = new Tape();
        table = new Table();
        tableDraft = new Table();
        planDraft = new Plan();
        book = new Book();
        bookDraft = new Book();
        game = new Game(table);
        ends = new Ends(table);
        tree = new Tree(table);
        history = new History();
        image0 = new Image(table);
        image1 = new Image(table);
        image2 = new Image(table);
    }

    public int feed(int a, int b, int c, int d, int e) {
        if (!tape.hasRoom(20)) {
            return NONE;
        }
        tape.addFour(a);
        tape.addFour(b);
        tape.addFour(c);
        tape.addFour(d);
        tape.addFour(e);
        return tape.size;
    }

    public int table(int n) throws IllegalArgumentException {
        needRange(n, 0, tape.size);
        tape.open(n);
        tableDraft.read(tape);
        if (tape.fault == 0) {
            table.become(tableDraft);
            game.begin();
            book.lines = 0;
            images = 0;
            history.settle(0);
        }
        return tape.close(table.players);
    }

    public int plan(int player, int n) throws NoSuchElementException, IllegalArgumentException {
        needPlayer(player);
        needRange(n, 0, Math.min(150, tape.size));
        return takePlan(player, n);
    }

    public int guess(int player, int n) throws NoSuchElementException, IllegalArgumentException {
        needPlayer(player);
        needRange(n, 0, Math.min(150, tape.size));
        return takePlan(MOST_PLAYERS + player, n);
    }

    public int book(int n) throws IllegalArgumentException {
        needRange(n, 0, Math.min(120, tape.size));
        tape.open(n);
        bookDraft.read(tape, table.players);
        if (tape.fault == 0) {
            book.become(bookDraft);
        }
        return tape.close(book.lines);
    }

    public int fault() {
        return tape.place;
    }

    public int told(int what) throws IllegalArgumentException {
        needRange(what, 0, 8);
        switch (what) {
            case 0:
                return table.players;
            case 1:
                return game.board.allCards();
            case 2:
                return game.turn;
            case 3:
                return game.board.whose();
            case 4:
                return game.board.pool.size;
            case 5:
                return game.lawOf(LAW_FALSE);
            case 6:
                return game.lawOf(LAW_TIE);
            case 7:
                return game.lawOf(LAW_POOL);
            default:
                return table.moments;
        }
    }

    public int player(int player, int what) throws NoSuchElementException, IllegalArgumentException {
        needPlayer(player);
        needRange(what, 0, 7);
        if (what <= PACE) {
            return table.trait(player, what);
        }
        if (what == 5) {
            return game.board.rowOf(player).size;
        }
        if (what == 6) {
            return game.board.heapOf(player).size;
        }
        return game.board.isOut(player) ? 1 : 0;
    }

    public int row(int player, int i) throws NoSuchElementException {
        needPlayer(player);
        return game.board.rowOf(player).kindAt(i);
    }

    public int heap(int player, int i) throws NoSuchElementException {
        needPlayer(player);
        return game.board.heapOf(player).kindAt(i);
    }

    public int pool(int i) {
        return game.board.pool.kindAt(i);
    }

    public int lain(int player, int i) throws NoSuchElementException {
        needPlayer(player);
        int card = game.board.rowOf(player).cardAt(i);
        return card == NONE ? NONE : card & 1;
    }

    public int alike() {
        return game.board.likeTops();
    }

    public boolean would(int player, int what) throws NoSuchElementException, IllegalArgumentException {
        needPlayer(player);
        needRange(what, 0, 1);
        game.look(game.board.whose());
        return game.wants(player, what);
    }

    public int law(int which, int is) throws IllegalArgumentException {
        needRange(which, 0, 2);
        needRange(is, 0, 2);
        int was = game.lawOf(which);
        game.setLaw(which, is);
        history.settle(game.turn);
        return was;
    }

    public void draws(int seed) {
        game.drawn = true;
        game.seed = seed;
        history.settle(game.turn);
    }

    public int still() {
        int was = game.drawn ? 1 : 0;
        game.drawn = false;
        history.settle(game.turn);
        return was;
    }

    public int play(int n) throws IllegalArgumentException {
        needRange(n, 1, 999);
        return history.playTurns(game, n);
    }

    public int undo(int n) throws IllegalArgumentException {
        needRange(n, 1, 999);
        return history.undoTurns(game, n);
    }

    public int latest(int what) throws IllegalArgumentException {
        needRange(what, 0, 4);
        return game.lastOf(what);
    }

    public int calls(int player, int kind) throws NoSuchElementException, IllegalArgumentException {
        needPlayer(player);
        needRange(kind, 0, KINDS_OF_CALLS - 1);
        return game.tallyOf(player * KINDS_OF_CALLS + kind);
    }

    public int won(int player) throws NoSuchElementException {
        needPlayer(player);
        return game.tallyOf(Game.WON + player);
    }

    public int ends(int what) throws IllegalArgumentException {
        needRange(what, 0, 3);
        ends.begin(game);
        ends.run();
        if (what == 0) {
            return ends.left;
        }
        if (what == 1) {
            return ends.length;
        }
        return what == 2 ? ends.verdict : ends.period;
    }

    public int where(int i) {
        return tree.likeTurn(game.board, i);
    }

    public int chance(int player, int watcher, int what) throws NoSuchElementException, IllegalArgumentException {
        needPlayer(player);
        needPlayer(watcher);
        needRange(what, 0, 1);
        Board board = game.board;
        Pile cards = board.sourceOf(player);
        int below = cards.size;
        int above = 0;
        if (below > 0 && board.firstHasLain(player) && table.trait(watcher, MEMORY) >= 1) {
            below = 1;
            above = board.isOtherTop(player, cards.kindAt(0)) ? 1 : 0;
        } else {
            for (int i = 0; i < below; i++) {
                above += board.isOtherTop(player, cards.kindAt(i)) ? 1 : 0;
            }
        }
        return (int) leastTerm(above, below, what);
    }

    public int waits(int up, int low, int g, int c) throws IllegalArgumentException {
        needWager(up, low, g, c);
        int worth = up * g - (low - up) * c;
        for (int q = 0; q <= 16; q++) {
            if (q * up * g >= 16 * worth) {
                return q;
            }
        }
        return 17;
    }

    public int ahead(int up, int low, int g, int c) throws IllegalArgumentException {
        needWager(up, low, g, c);
        return up * g - (low - up) * c;
    }

    public int moments(int one, int other, int c) throws IllegalArgumentException {
        needRange(one, 0, table.moments);
        needRange(other, 0, table.moments);
        needRange(c, 0, 99);
        return table.payoff(one, other, c);
    }

    public int rests(int c, int what) throws IllegalArgumentException {
        needRange(c, 0, 99);
        needRange(what, 0, 1);
        int many = 0;
        int first = NONE;
        for (int one = 0; one <= table.moments; one++) {
            for (int other = 0; other <= table.moments; other++) {
                if (table.isBest(one, other, c) && table.isBest(other, one, c)) {
                    first = many == 0 ? 100 * one + other : first;
                    many++;
                }
            }
        }
        return what == 0 ? many : first;
    }

    public int remember(int player, int k, int what) throws NoSuchElementException, IllegalArgumentException {
        needPlayer(player);
        needRange(k, 0, 4);
        needRange(what, 0, 1);
        tree.remembering(game.board, player, k, game.lawOf(LAW_POOL));
        return what == 0 ? tree.bestCards : tree.bestBits;
    }

    public long odds(int player, int n, int what) throws NoSuchElementException, IllegalArgumentException {
        needPlayer(player);
        needRange(n, 0, 12);
        needRange(what, 0, 1);
        tree.weighing(game.board, player, n, game.lawOf(LAW_POOL));
        return leastTerm(tree.above, tree.below, what);
    }

    public void shuffle(int seed) {
        game.board.mix(seed);
        history.settle(game.turn);
    }

    public int lot(int seed, int many, int what) throws IllegalArgumentException {
        needRange(many, 1, 20);
        needRange(what, 0, 5);
        int least = 0;
        int greatest = 0;
        int unended = 0;
        int left = 0;
        for (int i = 0; i < many; i++) {
            ends.begin(game);
            ends.work.board.mix(seed + i);
            ends.run();
            least = i == 0 ? ends.length : Math.min(least, ends.length);
            greatest = Math.max(greatest, ends.length);
            unended += ends.verdict == Ends.OVER ? 0 : 1;
            left += ends.left != NONE && ends.left == what - 2 ? 1 : 0;
        }
        if (what == 0) {
            return least;
        }
        if (what == 1) {
            return greatest;
        }
        return what == 5 ? unended : left;
    }

    public int film(int a, int b, int c, int d, int what) throws IllegalArgumentException {
        needRange(b, 0, 99);
        needRange(d, 0, 99);
        needRange(a, 0, b);
        needRange(c, 0, d);
        needRange(what, 0, 2);
        int earlier = 0;
        int both = 0;
        for (int x = a; x <= b; x++) {
            for (int y = c; y <= d; y++) {
                earlier += x < y ? 1 : 0;
                both += x == y ? 1 : 0;
            }
        }
        if (what == 0) {
            return earlier;
        }
        return what == 1 ? both : (b - a + 1) * (d - c + 1);
    }

    public int laws(int which, int what) throws IllegalArgumentException {
        needRange(which, 0, 8);
        needRange(what, 0, 1);
        ends.begin(game);
        ends.work.setLaw(LAW_FALSE, which / 3);
        ends.work.setLaw(LAW_TIE, which % 3);
        ends.run();
        return what == 0 ? ends.left : ends.length;
    }

    public int right() {
        for (int i = 0; i < book.lines; i++) {
            int turn = book.turnAt(i);
            if (turn >= game.turn || history.winnerOf(turn) != book.playerAt(i)) {
                return i;
            }
        }
        return book.lines;
    }

    public int entry(int i, int what) throws IllegalArgumentException {
        needRange(what, 0, 1);
        return what == 0 ? book.turnAt(i) : book.playerAt(i);
    }

    public int image() {
        if (images >= 3) {
            return -1;
        }
        imageOf(images).take(game, history, tape);
        images++;
        return images;
    }

    public int restore() {
        if (images <= 0) {
            return -1;
        }
        images--;
        imageOf(images).bring(game, history, tape);
        return images;
    }

    public int status(int what) {
        if (what == 0) {
            return unknownPlayers;
        }
        return what == 1 ? wrongNumbers : NONE;
    }

    public int count(int what) {
        switch (what) {
            case 0:
                return images;
            case 1:
                return tape.size;
            case 2:
                return book.lines;
            case 3:
                return game.turn - history.base;
            default:
                return NONE;
        }
    }

    private void needPlayer(int player) {
        if (player < 0 || player >= table.players) {
            unknownPlayers++;
            throw new NoSuchElementException("no such player");
        }
    }

    private void needRange(int number, int least, int most) {
        if (number < least || number > most) {
            wrongNumbers++;
            throw new IllegalArgumentException("a number out of its range");
        }
    }

    private void needWager(int up, int low, int g, int c) {
        needRange(low, 1, 99);
        needRange(up, 0, low);
        needRange(g, 0, 99);
        needRange(c, 0, 99);
    }

    private int takePlan(int place, int n) {
        tape.open(n);
        planDraft.read(tape);
        if (tape.fault == 0) {
            game.setPlan(place, new Plan(planDraft));
            history.settle(game.turn);
        }
        return tape.close(1);
    }

    private Image imageOf(int i) {
        if (i <= 0) {
            return image0;
        }
        return i == 1 ? image1 : image2;
    }

    private static long leastTerm(long above, long below, int what) {
        if (above <= 0 || below <= 0) {
            return what;
        }
        long common = commonDivisor(above, below);
        if (common <= 0) {
            return what == 0 ? above : below;
        }
        return what == 0 ? above / common : below / common;
    }

    private static long commonDivisor(long a, long b) {
        long greater = a;
        long lesser = b;
        // Euclid's steps for longs are fewer than a hundred
        for (int i = 0; i < 200 && lesser > 0; i++) {
            long rest = greater % lesser;
            greater = lesser;
            lesser = rest;
        }
        return greater;
    }

    /** Cards in order; a card is twice its KIND, and 1 more once it has lain open. */
    private static final class Pile {
        private final int[] cards = new int[MOST_CARDS];
        private int size;

        int cardAt(int i) {
            return i >= 0 && i < size && i < cards.length ? cards[i] : NONE;
        }

        int kindAt(int i) {
            return i >= 0 && i < size && i < cards.length ? cards[i] >> 1 : NONE;
        }

        int topKind() {
            return size > 0 && size <= cards.length ? cards[size - 1] >> 1 : NONE;
        }

        void put(int card) {
            if (size >= 0 && size < cards.length) {
                cards[size] = card;
                size++;
            }
        }

        int takeFirst() {
            if (size <= 0 || size > cards.length) {
                return NONE;
            }
            int first = cards[0];
            for (int i = 1; i < size; i++) {
                cards[i - 1] = cards[i];
            }
            size--;
            return first;
        }

        int takeLast() {
            if (size <= 0 || size > cards.length) {
                return NONE;
            }
            size--;
            return cards[size];
        }

        void takeAll(Pile from) {
            for (int i = 0; i < from.size && i < from.cards.length; i++) {
                put(from.cards[i]);
            }
            from.size = 0;
        }

        void become(Pile from) {
            size = 0;
            for (int i = 0; i < from.size && i < from.cards.length; i++) {
                put(from.cards[i]);
            }
        }

        void exchange(int i, int j) {
            if (i >= 0 && i < cards.length && j >= 0 && j < cards.length) {
                int card = cards[i];
                cards[i] = cards[j];
                cards[j] = card;
            }
        }

        void openFirst(int n) {
            for (int i = 0; i < n && i < size && i < cards.length; i++) {
                cards[i] |= 1;
            }
        }
    }

    /** ROWS, heaps, the POOL, and from whom on it is looked for the one whose TURN it is. */
    private static final class Board {
        private static final int PILES = 7;
        private static final int CARDS_A_LONG = 12;

        private final Pile row0 = new Pile();
        private final Pile row1 = new Pile();
        private final Pile row2 = new Pile();
        private final Pile heap0 = new Pile();
        private final Pile heap1 = new Pile();
        private final Pile heap2 = new Pile();
        private final Pile pool = new Pile();
        private int players;
        private int next;

        Pile rowOf(int player) {
            if (player <= 0) {
                return row0;
            }
            return player == 1 ? row1 : row2;
        }

        Pile heapOf(int player) {
            if (player <= 0) {
                return heap0;
            }
            return player == 1 ? heap1 : heap2;
        }

        Pile pileOf(int i) {
            if (i >= PILES - 1) {
                return pool;
            }
            return (i & 1) == 0 ? rowOf(i >> 1) : heapOf(i >> 1);
        }

        /** The pile that his next card comes from. */
        Pile sourceOf(int player) {
            Pile row = rowOf(player);
            return row.size > 0 ? row : heapOf(player);
        }

        void clear() {
            for (int i = 0; i < PILES; i++) {
                pileOf(i).size = 0;
            }
            players = 0;
            next = 0;
        }

        void become(Board from) {
            for (int i = 0; i < PILES; i++) {
                pileOf(i).become(from.pileOf(i));
            }
            players = from.players;
            next = from.next;
        }

        int cardsOf(int player) {
            return rowOf(player).size + heapOf(player).size;
        }

        int allCards() {
            int all = 0;
            for (int i = 0; i < PILES; i++) {
                all += pileOf(i).size;
            }
            return all;
        }

        boolean isOut(int player) {
            if (player < 0 || player >= players) {
                return true;
            }
            if (player == 0) {
                return row0.size + heap0.size == 0;
            }
            return player == 1 ? row1.size + heap1.size == 0 : row2.size + heap2.size == 0;
        }

        /** The first who is not OUT, of so many from a PLAYER on, round. */
        int firstIn(int player, int many) {
            int who = player;
            for (int i = 0; i < many && i < MOST_PLAYERS; i++) {
                who = who >= players ? who - players : who;
                if (!isOut(who)) {
                    return who;
                }
                who++;
            }
            return NONE;
        }

        int following(int player) {
            return firstIn(player + 1, players - 1);
        }

        int remaining() {
            int many = 0;
            for (int p = 0; p < players; p++) {
                many += isOut(p) ? 0 : 1;
            }
            return many;
        }

        int whose() {
            return remaining() <= 1 ? NONE : firstIn(next, players);
        }

        int leftOne() {
            return remaining() == 1 ? firstIn(0, players) : NONE;
        }

        int likeTops() {
            return likeTopsIf(NONE, NONE);
        }

        /** The ALIKE tops, if a card of a KIND lay on a PLAYER's heap (NONE: as they are). */
        int likeTopsIf(int player, int kind) {
            int top0 = player == 0 ? kind : heap0.topKind();
            int top1 = player == 1 ? kind : heap1.topKind();
            int top2 = player == 2 ? kind : heap2.topKind();
            if (top0 != NONE && top0 == top1) {
                return 1;
            }
            if (top0 != NONE && top0 == top2) {
                return 2;
            }
            return top1 != NONE && top1 == top2 ? 12 : NONE;
        }

        boolean isOtherTop(int player, int kind) {
            for (int p = 0; p < players; p++) {
                if (p != player && kind != NONE && heapOf(p).topKind() == kind) {
                    return true;
                }
            }
            return false;
        }

        /** A bit for each PLAYER whose top is of the KIND of another one's. */
        int twins() {
            int top0 = heap0.topKind();
            int top1 = heap1.topKind();
            int top2 = heap2.topKind();
            int bits = top0 != NONE && top0 == top1 ? 3 : 0;
            bits |= top0 != NONE && top0 == top2 ? 5 : 0;
            return top1 != NONE && top1 == top2 ? bits | 6 : bits;
        }

        boolean firstHasLain(int player) {
            int card = rowOf(player).cardAt(0);
            return card != NONE && (card & 1) == 1;
        }

        void turnOver(int player) {
            if (rowOf(player).size == 0) {
                rowOf(player).takeAll(heapOf(player));
            }
        }

        /** Lays his next card, which has lain open from then on; answers it as it was before. */
        int lay(int player) {
            int card = rowOf(player).takeFirst();
            if (card != NONE) {
                heapOf(player).put(card | 1);
            }
            next = player + 1;
            return card;
        }

        /** The next TURN as far as nobody calls in it; false if the GAME is over. */
        boolean step() {
            int layer = whose();
            if (layer == NONE) {
                return false;
            }
            turnOver(layer);
            lay(layer);
            return true;
        }

        /** Both ALIKE heaps come behind his ROW, by LAW the POOL, too; answers how many cards. */
        int win(int player, int pair, int poolLaw) {
            Pile row = rowOf(player);
            int before = row.size;
            int kind = heapOf(pair / 10).topKind();
            row.takeAll(heapOf(pair / 10));
            row.takeAll(heapOf(pair % 10));
            if (poolLaw == 2 || poolLaw == 1 && pool.topKind() == kind) {
                row.takeAll(pool);
            }
            return row.size - before;
        }

        void poolHeaps(int pair) {
            pool.takeAll(heapOf(pair / 10));
            pool.takeAll(heapOf(pair % 10));
        }

        /** SHUFFLED: each ROW, from its last place down to the second. */
        void mix(int seed) {
            int now = seed;
            for (int p = 0; p < players; p++) {
                Pile row = rowOf(p);
                for (int i = row.size - 1; i >= 1; i--) {
                    now = now * 1103515245 + 12345;
                    row.exchange(i, ((now >>> 16) & 0x7fff) % (i + 1));
                }
            }
        }

        /** The whole board in 7 longs: 5 of cards, one of sizes and whose TURN, one that is free. */
        void pack(long[] into, int at) {
            if (at < 0 || at > into.length - STATE_LONGS) {
                return;
            }
            for (int i = 0; i < STATE_LONGS; i++) {
                into[at + i] = 0;
            }
            long sizes = (long) (whose() + 1) << 42;
            long word = 0;
            int inWord = 0;
            int slot = 0;
            for (int i = 0; i < PILES; i++) {
                Pile pile = pileOf(i);
                sizes |= (long) pile.size << (6 * i);
                for (int k = 0; k < pile.size && k < pile.cards.length && slot < 5; k++) {
                    word |= (long) pile.cards[k] << (5 * inWord);
                    into[at + slot] = word;
                    inWord++;
                    if (inWord == CARDS_A_LONG) {
                        word = 0;
                        inWord = 0;
                        slot++;
                    }
                }
            }
            into[at + 5] = sizes;
        }

        void unpack(long[] from, int at) {
            if (at < 0 || at > from.length - STATE_LONGS) {
                return;
            }
            long sizes = from[at + 5];
            int many = 0;
            for (int i = 0; i < PILES; i++) {
                Pile pile = pileOf(i);
                int size = (int) (sizes >>> (6 * i)) & 63;
                pile.size = 0;
                for (int k = 0; k < size && many < MOST_CARDS; k++) {
                    pile.put((int) (from[at + many / CARDS_A_LONG] >>> (5 * (many % CARDS_A_LONG))) & 31);
                    many++;
                }
            }
            next = Math.max(0, ((int) (sizes >>> 42) & 3) - 1);
        }
    }

    /** What a TABLE tells: who plays, the cards as they are dealt, the LAWS, the MOMENTS. */
    private static final class Table {
        private static final int TRAITS = 5;
        private static final int MOST_CLAUSES = 40;

        private final int[] traits = new int[MOST_PLAYERS * TRAITS];
        private final int[] weights = new int[MOST_MOMENTS];
        private final int[] laws = new int[3];
        private final Board dealt = new Board();
        private int players;
        private int moments;

        int trait(int player, int what) {
            int at = player * TRAITS + what;
            return at >= 0 && at < traits.length ? traits[at] : 0;
        }

        void setTrait(int player, int what, int is) {
            int at = player * TRAITS + what;
            if (at >= 0 && at < traits.length) {
                traits[at] = is;
            }
        }

        int allQuickness() {
            int all = 0;
            for (int p = 0; p < players; p++) {
                all += trait(p, QUICKNESS);
            }
            return all;
        }

        void become(Table from) {
            for (int i = 0; i < traits.length && i < from.traits.length; i++) {
                traits[i] = from.traits[i];
            }
            for (int i = 0; i < weights.length && i < from.weights.length; i++) {
                weights[i] = from.weights[i];
            }
            for (int i = 0; i < laws.length && i < from.laws.length; i++) {
                laws[i] = from.laws[i];
            }
            dealt.become(from.dealt);
            players = from.players;
            moments = from.moments;
        }

        void read(Tape tape) {
            Arrays.fill(laws, 0);
            dealt.clear();
            players = 0;
            moments = 0;
            for (int i = 0; i <= MOST_CLAUSES && tape.fault == 0 && tape.peek() != NONE; i++) {
                readClause(tape, i >= MOST_CLAUSES);
            }
            if (players < 2) {
                tape.fail(4);
            }
            dealt.players = players;
        }

        private void readClause(Tape tape, boolean tooMany) {
            int at = tape.pos;
            if (tape.takeWord("player")) {
                tape.failIf(tooMany || players >= MOST_PLAYERS, 3, at);
                readPlayer(tape);
            } else if (tape.takeWord("moment")) {
                tape.failIf(tooMany || moments >= MOST_MOMENTS, 3, at);
                readMoment(tape);
            } else if (tape.takeWord("row")) {
                tape.failIf(tooMany, 3, at);
                readCards(tape);
            } else if (tape.takeWord("pace")) {
                tape.failIf(tooMany, 3, at);
                int player = tape.takeNumber(0, players - 1);
                setTrait(player, PACE, tape.takeNumber(1, 9));
            } else if (tape.takeWord("open")) {
                tape.failIf(tooMany, 3, at);
                Pile row = dealt.rowOf(tape.takeNumber(0, players - 1));
                row.openFirst(tape.takeNumber(0, row.size));
            } else {
                readLaw(tape, tooMany);
            }
            tape.needSign(';');
        }

        private void readLaw(Tape tape, boolean tooMany) {
            int at = tape.pos;
            if (tape.takeWord("false")) {
                tape.failIf(tooMany, 3, at);
                laws[LAW_FALSE] = tape.takeNumber(0, 2);
            } else if (tape.takeWord("tie")) {
                tape.failIf(tooMany, 3, at);
                laws[LAW_TIE] = tape.takeNumber(0, 2);
            } else if (tape.takeWord("pool")) {
                tape.failIf(tooMany, 3, at);
                laws[LAW_POOL] = tape.takeNumber(0, 2);
            } else {
                tape.fail(1);
            }
        }

        private void readPlayer(Tape tape) {
            int player = players;
            setTrait(player, QUICKNESS, tape.takeNumber(1, 9));
            setTrait(player, MEMORY, tape.takeNumber(0, 60));
            setTrait(player, DELAY, tape.takeNumber(0, 9));
            setTrait(player, EYES, tape.takeNumber(0, 2));
            setTrait(player, PACE, 5);
            players = Math.min(MOST_PLAYERS, players + 1);
        }

        private void readMoment(Tape tape) {
            int weight = tape.takeNumber(0, 9);
            if (moments >= 0 && moments < weights.length) {
                weights[moments] = weight;
                moments++;
            }
        }

        private void readCards(Tape tape) {
            Pile row = dealt.rowOf(tape.takeNumber(0, players - 1));
            int all = dealt.allCards();
            if (!Tape.isLetter(tape.peek())) {
                tape.fail(1);
            }
            for (int i = 0; i < Tape.ROOM && tape.fault == 0 && Tape.isLetter(tape.here()); i++) {
                tape.failIf(tape.here() > 'o', 1, tape.pos);
                tape.failIf(all >= MOST_CARDS, 3, tape.pos);
                row.put((tape.here() - 'a') * 2);
                all++;
                tape.pos++;
            }
        }

        int payoff(int one, int other, int c) {
            int sum = 0;
            for (int m = 0; m < moments && m < weights.length && one < moments; m++) {
                if (one < m) {
                    sum -= c * weights[m];
                } else if (other < m || other > one) {
                    sum += 10 * weights[m];
                } else if (other == one) {
                    sum += 5 * weights[m];
                }
            }
            return sum;
        }

        boolean isBest(int one, int other, int c) {
            int worth = payoff(one, other, c);
            for (int choice = 0; choice <= moments; choice++) {
                if (payoff(choice, other, c) > worth) {
                    return false;
                }
            }
            return true;
        }
    }

    /** The TAPE, and the reader that goes over a text on it from the left to the first FAULT. */
    private static final class Tape {
        private static final int ROOM = 600;

        private final byte[] bytes = new byte[ROOM];
        private int size;
        private int end;
        private int pos;
        private int fault;
        private int place = NONE;

        boolean hasRoom(int more) {
            return size + more <= bytes.length;
        }

        void addFour(int number) {
            for (int shift = 24; shift >= 0; shift -= 8) {
                if (size >= 0 && size < bytes.length) {
                    bytes[size] = (byte) (number >>> shift);
                    size++;
                }
            }
        }

        void become(Tape from) {
            for (int i = 0; i < bytes.length && i < from.bytes.length; i++) {
                bytes[i] = from.bytes[i];
            }
            size = from.size;
            place = from.place;
        }

        void open(int n) {
            end = Math.min(n, bytes.length);
            pos = 0;
            fault = 0;
            place = NONE;
        }

        /** The TAPE is empty then; answers the FAULT less 10, if there was one. */
        int close(int answer) {
            size = 0;
            return fault == 0 ? answer : fault - 10;
        }

        void fail(int number) {
            failIf(true, number, pos);
        }

        void failIf(boolean so, int number, int at) {
            if (so && fault == 0) {
                fault = number;
                place = at;
            }
        }

        static boolean isLetter(int sign) {
            return sign >= 'a' && sign <= 'z';
        }

        static boolean isDigit(int sign) {
            return sign >= '0' && sign <= '9';
        }

        int signAt(int i) {
            return i >= 0 && i < end && i < bytes.length ? bytes[i] & 255 : NONE;
        }

        int here() {
            return pos >= 0 && pos < end && pos < bytes.length ? bytes[pos] & 255 : NONE;
        }

        /** Goes over blanks; answers the sign that stands there then. */
        int peek() {
            for (int i = 0; i < ROOM && pos >= 0 && pos < end && pos < bytes.length; i++) {
                if (bytes[pos] != ' ') {
                    return bytes[pos] & 255;
                }
                pos++;
            }
            return NONE;
        }

        private int lettersHere() {
            int many = 0;
            for (int i = 0; i < bytes.length && isLetter(signAt(pos + i)); i++) {
                many++;
            }
            return many;
        }

        /** Takes the word, if all the letters that stand here are it. */
        boolean takeWord(String word) {
            peek();
            if (fault != 0 || lettersHere() != word.length()) {
                return false;
            }
            for (int i = 0; i < word.length(); i++) {
                if (signAt(pos + i) != word.charAt(i)) {
                    return false;
                }
            }
            pos += word.length();
            return true;
        }

        boolean takeSign(char sign) {
            if (fault != 0 || peek() != sign) {
                return false;
            }
            pos++;
            return true;
        }

        void needSign(char sign) {
            boolean stands = peek() == sign;
            failIf(!stands, 1, pos);
            pos += stands ? 1 : 0;
        }

        /** A number from least to most; behind a FAULT the least. */
        int takeNumber(int least, int most) {
            if (fault != 0) {
                return least;
            }
            if (!isDigit(peek())) {
                failIf(true, 1, pos);
                return least;
            }
            int at = pos;
            int value = 0;
            for (int i = 0; i < bytes.length && isDigit(here()); i++) {
                value = Math.min(1000000, value * 10 + here() - '0');
                pos++;
            }
            failIf(value < least || value > most, 2, at);
            return fault == 0 ? value : least;
        }

        /** One letter, "a" to "o", as a KIND; behind a FAULT 0. */
        int takeKind() {
            int sign = peek();
            failIf(lettersHere() != 1 || sign > 'o', 1, pos);
            if (fault != 0) {
                return 0;
            }
            pos++;
            return sign - 'a';
        }
    }

    /** A PLAN (or GUESS) in the order in which a stack of truths works it out. */
    private static final class Plan {
        private static final int ALIKE = 0;
        private static final int MINE = 1;
        private static final int TOP = 2;
        private static final int NEAR = 3;
        private static final int KNOW = 4;
        private static final int HEAP_LESS = 5;
        private static final int HEAP_MORE = 6;
        private static final int ROW_LESS = 7;
        private static final int ROW_MORE = 8;
        private static final int POOL_MORE = 9;
        private static final int TURN = 10;
        private static final int NOT = 11;
        private static final int AND = 12;
        private static final int OR = 13;

        private static final int MOST_OPEN = 6;
        private static final int ROOM = 150;
        /** More than 3,000: no two TURNS of one ENDS leave the same by it. */
        private static final int TOO_LONG = 3001;

        private final int[] codes;
        private int size;

        Plan() {
            codes = new int[ROOM];
        }

        Plan(Plan draft) {
            codes = Arrays.copyOf(draft.codes, Math.max(0, draft.size));
            size = draft.size;
        }

        void read(Tape tape) {
            size = 0;
            readOr(tape, 0);
            if (tape.peek() != NONE) {
                tape.fail(1);
            }
        }

        private void emit(int op, int arg) {
            if (size >= 0 && size < codes.length) {
                codes[size] = op << 12 | arg;
                size++;
            }
        }

        private void readOr(Tape tape, int open) {
            readAnd(tape, open);
            for (int i = 0; i < ROOM && tape.takeWord("or"); i++) {
                readAnd(tape, open);
                emit(OR, 0);
            }
        }

        private void readAnd(Tape tape, int open) {
            readOne(tape, open);
            for (int i = 0; i < ROOM && tape.takeWord("and"); i++) {
                readOne(tape, open);
                emit(AND, 0);
            }
        }

        private void readOne(Tape tape, int open) {
            tape.peek();
            int at = tape.pos;
            if (tape.takeSign('[')) {
                tape.failIf(open >= MOST_OPEN, 3, at);
                if (open < MOST_OPEN) {
                    readOr(tape, open + 1);
                    tape.needSign(']');
                }
            } else if (tape.takeWord("not")) {
                tape.failIf(open >= MOST_OPEN, 3, at);
                if (open < MOST_OPEN) {
                    readOne(tape, open + 1);
                    emit(NOT, 0);
                }
            } else {
                readFact(tape);
            }
        }

        private void readFact(Tape tape) {
            if (tape.takeWord("alike")) {
                emit(ALIKE, 0);
            } else if (tape.takeWord("mine")) {
                emit(MINE, 0);
            } else if (tape.takeWord("know")) {
                emit(KNOW, 0);
            } else if (tape.takeWord("top")) {
                emit(TOP, tape.takeKind());
            } else if (tape.takeWord("near")) {
                emit(NEAR, tape.takeKind());
            } else if (tape.takeWord("heap")) {
                readSize(tape, HEAP_LESS, HEAP_MORE);
            } else if (tape.takeWord("row")) {
                readSize(tape, ROW_LESS, ROW_MORE);
            } else if (tape.takeWord("pool")) {
                readSize(tape, NONE, POOL_MORE);
            } else if (tape.takeWord("turn")) {
                int by = tape.takeNumber(1, 60);
                emit(TURN, by * 64 + tape.takeNumber(0, by - 1));
            } else {
                tape.fail(1);
            }
        }

        private void readSize(Tape tape, int less, int more) {
            if (less != NONE && tape.takeSign('<')) {
                emit(less, tape.takeNumber(0, 60));
            } else {
                tape.needSign('>');
                emit(more, tape.takeNumber(0, 60));
            }
        }

        boolean holds(Game game, int player) {
            long truths = 0;
            for (int i = 0; i < size && i < codes.length; i++) {
                int op = codes[i] >> 12;
                if (op == NOT) {
                    truths ^= 1;
                } else if (op == AND) {
                    truths = truths >>> 1 & (truths | ~1L);
                } else if (op == OR) {
                    truths = truths >>> 1 | truths & 1;
                } else {
                    truths = truths << 1 | (game.fact(op, codes[i] & 4095, player) ? 1 : 0);
                }
            }
            return (truths & 1) == 1;
        }

        /** The least number that all of "so far" and the M of this PLAN part. */
        int cycle(int soFar) {
            int all = soFar;
            for (int i = 0; i < size && i < codes.length; i++) {
                int by = (codes[i] & 4095) >> 6;
                if (codes[i] >> 12 == TURN && by > 0) {
                    long common = commonDivisor(all, by);
                    all = common > 0 ? (int) Math.min(TOO_LONG, all / common * by) : TOO_LONG;
                }
                if (all >= TOO_LONG) {
                    return TOO_LONG;
                }
            }
            return all;
        }
    }

    /** The lines of a BOOK. */
    private static final class Book {
        private static final int MOST_LINES = 12;

        private final int[] turns = new int[MOST_LINES];
        private final int[] winners = new int[MOST_LINES];
        private int lines;

        int turnAt(int i) {
            return i >= 0 && i < lines && i < turns.length ? turns[i] : NONE;
        }

        int playerAt(int i) {
            return i >= 0 && i < lines && i < winners.length ? winners[i] : NONE;
        }

        void become(Book from) {
            lines = 0;
            for (int i = 0; i < from.lines; i++) {
                add(from.turnAt(i), from.playerAt(i));
            }
        }

        private void add(int turn, int winner) {
            if (lines >= 0 && lines < turns.length && lines < winners.length) {
                turns[lines] = turn;
                winners[lines] = winner;
                lines++;
            }
        }

        void read(Tape tape, int players) {
            lines = 0;
            for (int i = 0; i <= MOST_LINES && tape.fault == 0 && tape.peek() != NONE; i++) {
                int at = tape.pos;
                int turn = tape.takeNumber(0, 9999);
                tape.failIf(i >= MOST_LINES, 3, at);
                int winner = tape.takeNumber(0, players - 1);
                tape.needSign(';');
                add(turn, winner);
            }
        }
    }

    /** A GAME as it stands, and how a TURN of it goes. */
    private static final class Game {
        private static final int SEEN = 0;
        private static final int GUESSED = 1;
        private static final int REMEMBERED = 2;
        private static final int FALSE_CALL = 3;
        private static final int TIED = 4;
        private static final int LATE = 5;
        /** Behind the calls of all PLAYERS stand the cards that they have won. */
        private static final int WON = MOST_PLAYERS * KINDS_OF_CALLS;
        private static final int TALLIES = WON + MOST_PLAYERS;
        private static final int AHEAD = -1;
        private static final int SILENT = 99;

        private final Table table;
        private final Board board = new Board();
        private final int[] laws = new int[3];
        private final Plan[] plans = new Plan[2 * MOST_PLAYERS];
        private final int[] tallies = new int[TALLIES];
        private final int[] last = new int[5];
        private final int[] delays = new int[MOST_PLAYERS];
        private boolean hasLast;
        private boolean drawn;
        private int seed;
        private int turn;
        private int pair = NONE;
        private int twins;
        private boolean nextIsLike;

        Game(Table table) {
            this.table = table;
        }

        void begin() {
            board.become(table.dealt);
            for (int i = 0; i < laws.length && i < table.laws.length; i++) {
                laws[i] = table.laws[i];
            }
            for (int i = 0; i < plans.length; i++) {
                plans[i] = null;
            }
            Arrays.fill(tallies, 0);
            hasLast = false;
            drawn = false;
            seed = 0;
            turn = 0;
        }

        void become(Game from) {
            board.become(from.board);
            for (int i = 0; i < laws.length && i < from.laws.length; i++) {
                laws[i] = from.laws[i];
            }
            for (int i = 0; i < plans.length && i < from.plans.length; i++) {
                plans[i] = from.plans[i];
            }
            for (int i = 0; i < tallies.length && i < from.tallies.length; i++) {
                tallies[i] = from.tallies[i];
            }
            hasLast = false;
            drawn = from.drawn;
            seed = from.seed;
            turn = from.turn;
        }

        int lawOf(int which) {
            return which >= 0 && which < laws.length ? laws[which] : 0;
        }

        void setLaw(int which, int is) {
            if (which >= 0 && which < laws.length) {
                laws[which] = is;
            }
        }

        void setPlan(int place, Plan plan) {
            if (place >= 0 && place < plans.length) {
                plans[place] = plan;
            }
        }

        int tallyOf(int at) {
            return at >= 0 && at < tallies.length ? tallies[at] : 0;
        }

        private void addTally(int at, int more) {
            if (at >= 0 && at < tallies.length) {
                tallies[at] += more;
            }
        }

        int lastOf(int what) {
            return hasLast && what >= 0 && what < last.length ? last[what] : NONE;
        }

        private void setLast(int what, int is) {
            if (what >= 0 && what < last.length) {
                last[what] = is;
            }
        }

        private int delayOf(int player) {
            return player >= 0 && player < delays.length ? delays[player] : SILENT;
        }

        private void setDelay(int player, int is) {
            if (player >= 0 && player < delays.length) {
                delays[player] = is;
            }
        }

        /** The least number that all M in PLANS and GUESSES part, as far as it matters. */
        int cycle() {
            int all = 1;
            for (int i = 0; i < plans.length; i++) {
                Plan plan = plans[i];
                all = plan == null ? all : plan.cycle(all);
            }
            return all;
        }

        /** What PLANS ask and what is the same for all of them; layer: who lays next. */
        void look(int layer) {
            pair = board.likeTops();
            twins = board.twins();
            int card = layer == NONE ? NONE : board.rowOf(layer).cardAt(0);
            nextIsLike = card != NONE && (card & 1) == 1 && board.likeTopsIf(layer, card >> 1) != NONE;
        }

        /** Whether his PLAN (what 0), his GUESS (1) holds; look() comes ahead of it. */
        boolean wants(int player, int what) {
            int place = what * MOST_PLAYERS + player;
            Plan plan = place >= 0 && place < plans.length ? plans[place] : null;
            if (plan == null) {
                return what == 0 && pair != NONE;
            }
            return plan.holds(this, player);
        }

        boolean fact(int op, int arg, int player) {
            int top = board.heapOf(player).topKind();
            switch (op) {
                case Plan.ALIKE:
                    return pair != NONE;
                case Plan.MINE:
                    return (twins >> player & 1) == 1;
                case Plan.TOP:
                    return top == arg;
                case Plan.NEAR:
                    return board.rowOf(player).cardAt(0) == arg * 2 + 1 && table.trait(player, MEMORY) >= 1;
                case Plan.KNOW:
                    return nextIsLike && table.trait(player, MEMORY) >= 1;
                case Plan.HEAP_LESS:
                    return board.heapOf(player).size < arg;
                case Plan.HEAP_MORE:
                    return board.heapOf(player).size > arg;
                case Plan.ROW_LESS:
                    return board.rowOf(player).size < arg;
                case Plan.ROW_MORE:
                    return board.rowOf(player).size > arg;
                case Plan.POOL_MORE:
                    return board.pool.size > arg;
                default:
                    int by = arg >> 6;
                    return by > 0 && turn % by == (arg & 63);
            }
        }

        /** One TURN; false, doing nothing, if the GAME is over. */
        boolean playTurn() {
            int layer = board.whose();
            if (layer == NONE) {
                return false;
            }
            board.turnOver(layer);
            look(layer);
            callAhead();
            int card = board.lay(layer);
            look(board.following(layer));
            callBehind(layer);
            judge(card);
            turn++;
            return true;
        }

        private void callAhead() {
            for (int p = 0; p < table.players; p++) {
                setDelay(p, !board.isOut(p) && wants(p, 1) ? AHEAD : SILENT);
            }
        }

        private void callBehind(int layer) {
            for (int p = 0; p < table.players; p++) {
                if (delayOf(p) == SILENT && !board.isOut(p) && wants(p, 0)) {
                    int delay = table.trait(p, DELAY) + (table.trait(p, EYES) == layer ? 0 : 1) + drawnDelay();
                    if (delay >= table.trait(layer, PACE)) {
                        addTally(p * KINDS_OF_CALLS + LATE, 1);
                    } else {
                        setDelay(p, delay);
                    }
                }
            }
        }

        private int drawnDelay() {
            if (!drawn) {
                return 0;
            }
            seed = seed * 1103515245 + 12345;
            return seed >>> 16 & 3;
        }

        private void judge(int card) {
            int least = SILENT;
            int leastMany = 0;
            int inTime = 0;
            int first = NONE;
            for (int p = 0; p < table.players; p++) {
                int delay = delayOf(p);
                inTime += delay < SILENT ? 1 : 0;
                leastMany += delay == least ? 1 : 0;
                if (delay < least) {
                    least = delay;
                    leastMany = 1;
                    first = p;
                }
            }
            if (first != NONE && leastMany > 1 && lawOf(LAW_TIE) != 0) {
                fallTogether(least);
                first = NONE;
            }
            boolean wins = first != NONE && pair != NONE;
            int gained = 0;
            if (wins) {
                gained = board.win(first, pair, lawOf(LAW_POOL));
                addTally(first * KINDS_OF_CALLS + kindOfWin(first, least, card), 1);
                addTally(WON + first, gained);
            } else if (first != NONE) {
                addTally(first * KINDS_OF_CALLS + FALSE_CALL, 1);
                payForFalse(first);
            }
            hasLast = true;
            setLast(0, wins ? first : NONE);
            setLast(1, first);
            setLast(2, first == NONE ? 0 : least);
            setLast(3, inTime);
            setLast(4, gained);
        }

        private int kindOfWin(int player, int delay, int card) {
            if (delay != AHEAD) {
                return SEEN;
            }
            return (card & 1) == 1 && table.trait(player, MEMORY) >= 1 ? REMEMBERED : GUESSED;
        }

        private void fallTogether(int least) {
            for (int p = 0; p < table.players; p++) {
                if (delayOf(p) == least) {
                    addTally(p * KINDS_OF_CALLS + TIED, 1);
                }
            }
            if (lawOf(LAW_TIE) == 2 && pair != NONE) {
                board.poolHeaps(pair);
            }
        }

        private void payForFalse(int player) {
            Pile row = board.rowOf(player);
            Pile heap = board.heapOf(player);
            if (lawOf(LAW_FALSE) == 0) {
                int other = board.following(player);
                if (other != NONE) {
                    board.rowOf(other).takeAll(heap);
                }
            } else if (lawOf(LAW_FALSE) == 1 && row.size + heap.size > 0) {
                board.pool.put(row.size > 0 ? row.takeFirst() : heap.takeLast());
            }
        }
    }

    /** Plays a GAME on, apart, till it ENDS. */
    private static final class Ends {
        private static final int UNENDED = 0;
        private static final int OVER = 1;
        private static final int ROUND = 2;
        private static final int MOST_TURNS = 3000;
        private static final int SLOTS = 4096;

        private final Game work;
        private final long[] states = new long[(MOST_TURNS + 1) * STATE_LONGS];
        private final int[] heads = new int[SLOTS];
        private final int[] chains = new int[MOST_TURNS + 1];
        private int left;
        private int length;
        private int verdict;
        private int period;

        Ends(Table table) {
            work = new Game(table);
        }

        void begin(Game game) {
            work.become(game);
        }

        void run() {
            int cycle = Math.max(1, work.cycle());
            Arrays.fill(heads, NONE);
            verdict = UNENDED;
            period = 0;
            length = 0;
            for (int t = 0; t <= MOST_TURNS && verdict == UNENDED; t++) {
                length = t;
                if (work.board.whose() == NONE) {
                    verdict = OVER;
                    break;
                }
                int earlier = note(t, cycle);
                if (earlier != NONE) {
                    verdict = ROUND;
                    period = t - earlier;
                } else if (t < MOST_TURNS) {
                    work.playTurn();
                }
            }
            left = verdict == OVER ? work.board.leftOne() : NONE;
        }

        /** Keeps how all is behind t TURNS; answers the TURN behind which it was the same, or NONE. */
        private int note(int t, int cycle) {
            int at = t * STATE_LONGS;
            if (t < 0 || t >= chains.length || at > states.length - STATE_LONGS || cycle <= 0) {
                return NONE;
            }
            work.board.pack(states, at);
            states[at + 5] |= (long) (work.turn % cycle) << 44;
            states[at + 6] = work.drawn ? work.seed : 0;
            int slot = slotOf(at);
            if (slot < 0 || slot >= heads.length) {
                return NONE;
            }
            int earlier = heads[slot];
            for (int i = 0; i <= MOST_TURNS && earlier >= 0 && earlier < chains.length; i++) {
                if (isSame(earlier * STATE_LONGS, at)) {
                    return earlier;
                }
                earlier = chains[earlier];
            }
            chains[t] = heads[slot];
            heads[slot] = t;
            return NONE;
        }

        private int slotOf(int at) {
            long mix = 0;
            for (int i = at; i >= 0 && i < at + STATE_LONGS && i < states.length; i++) {
                mix = (mix ^ states[i]) * 0x9E3779B97F4A7C15L;
                mix ^= mix >>> 29;
            }
            return (int) (mix >>> 52);
        }

        private boolean isSame(int one, int other) {
            int most = states.length - STATE_LONGS;
            if (one < 0 || other < 0 || one > most || other > most) {
                return false;
            }
            for (int i = 0; i < STATE_LONGS; i++) {
                if (states[one + i] != states[other + i]) {
                    return false;
                }
            }
            return true;
        }
    }

    /** Goes through what may come: a board for each TURN ahead, up to 12. */
    private static final class Tree {
        private static final int MOST_TURNS = 12;
        private static final int TURNS_TO_LOOK = 60;

        private final Table table;
        private final Board[] boards = new Board[MOST_TURNS + 1];
        private int player;
        private int poolLaw;
        private int turns;
        private int bestCards;
        private int bestBits;
        private long above;
        private long below;

        Tree(Table table) {
            this.table = table;
            for (int i = 0; i < boards.length; i++) {
                boards[i] = new Board();
            }
        }

        private Board boardAt(int i) {
            return i >= 0 && i < boards.length ? boards[i] : null;
        }

        private void start(Board from) {
            Board first = boardAt(0);
            if (first != null) {
                first.become(from);
            }
        }

        int likeTurn(Board from, int i) {
            start(from);
            Board board = boardAt(0);
            int found = 0;
            for (int t = 0; t < TURNS_TO_LOOK && board != null && board.step(); t++) {
                if (board.likeTops() != NONE) {
                    if (found == i) {
                        return t;
                    }
                    found++;
                }
            }
            return NONE;
        }

        void remembering(Board from, int who, int k, int law) {
            start(from);
            player = who;
            poolLaw = law;
            bestCards = NONE;
            bestBits = 0;
            choose(0, 0, k);
        }

        private void choose(int turn, int bits, int more) {
            Board now = boardAt(turn);
            Board then = boardAt(turn + 1);
            if (now == null) {
                return;
            }
            if (then == null || !now.step()) {
                keepBetter(now.cardsOf(player), bits);
                return;
            }
            int pair = now.likeTops();
            int other = now.following(player);
            then.become(now);
            if (pair != NONE && other != NONE) {
                then.win(other, pair, poolLaw);
            }
            choose(turn + 1, bits, more);
            if (pair != NONE && more > 0 && !now.isOut(player)) {
                then.become(now);
                then.win(player, pair, poolLaw);
                choose(turn + 1, bits | 1 << turn, more - 1);
            }
        }

        private void keepBetter(int cards, int bits) {
            if (cards > bestCards || cards == bestCards && bits < bestBits) {
                bestCards = cards;
                bestBits = bits;
            }
        }

        void weighing(Board from, int who, int n, int law) {
            start(from);
            player = who;
            poolLaw = law;
            turns = n;
            above = 0;
            below = 1;
            for (int i = 0; i < n; i++) {
                below *= table.allQuickness();
            }
            weigh(0, 1);
        }

        /** ways: of the ways that lead here, each as often as its winners' QUICKNESS tells. */
        private void weigh(int turn, long ways) {
            Board now = boardAt(turn);
            Board then = boardAt(turn + 1);
            if (now == null) {
                return;
            }
            if (turn >= turns || then == null || !now.step()) {
                above += leads(now) ? allWays(turn, ways) : 0;
                return;
            }
            int pair = now.likeTops();
            int nobody = 0;
            for (int p = 0; p < table.players; p++) {
                if (pair == NONE || now.isOut(p)) {
                    nobody += table.trait(p, QUICKNESS);
                } else {
                    then.become(now);
                    then.win(p, pair, poolLaw);
                    weigh(turn + 1, ways * table.trait(p, QUICKNESS));
                }
            }
            if (nobody > 0) {
                then.become(now);
                weigh(turn + 1, ways * nobody);
            }
        }

        private long allWays(int turn, long ways) {
            long all = ways;
            for (int i = turn; i < turns; i++) {
                all *= table.allQuickness();
            }
            return all;
        }

        private boolean leads(Board board) {
            for (int p = 0; p < table.players; p++) {
                if (p != player && board.cardsOf(p) >= board.cardsOf(player)) {
                    return false;
                }
            }
            return true;
        }
    }

    /** Who won in TURNS that have gone by, and states from which TURNS are played again to undo some. */
    private static final class History {
        private static final int MOST_BOOKED = 10000;
        private static final int WINNERS_A_LONG = 31;
        private static final int MOST_MARKS = 512;

        private final long[] winners = new long[MOST_BOOKED / WINNERS_A_LONG + 1];
        private final long[] states = new long[MOST_MARKS * STATE_LONGS];
        private final int[] tallies = new int[MOST_MARKS * Game.TALLIES];
        private final int[] turns = new int[MOST_MARKS];
        private int marks;
        private int base;

        /** What went by ahead can't be undone any more. */
        void settle(int turn) {
            base = turn;
            marks = 0;
        }

        int winnerOf(int turn) {
            int at = turn / WINNERS_A_LONG;
            if (turn < 0 || turn >= MOST_BOOKED || at >= winners.length) {
                return NONE;
            }
            return (int) (winners[at] >>> 2 * (turn % WINNERS_A_LONG) & 3) - 1;
        }

        private void record(int turn, int winner) {
            int at = turn / WINNERS_A_LONG;
            if (turn < 0 || turn >= MOST_BOOKED || at >= winners.length) {
                return;
            }
            int shift = 2 * (turn % WINNERS_A_LONG);
            winners[at] = winners[at] & ~(3L << shift) | (long) (winner + 1) << shift;
        }

        int playTurns(Game game, int n) {
            mark(game);
            for (int i = 0; i < n; i++) {
                if (!game.playTurn()) {
                    return i;
                }
                record(game.turn - 1, game.lastOf(0));
            }
            return n;
        }

        int undoTurns(Game game, int n) {
            int many = Math.min(n, game.turn - base);
            int target = game.turn - many;
            for (int i = 0; i < MOST_MARKS && turnOfMark(marks - 1) > target; i++) {
                marks--;
            }
            if (many <= 0 || !goTo(game, marks - 1)) {
                return 0;
            }
            int again = target - game.turn;
            for (int i = 0; i < again; i++) {
                game.playTurn();
            }
            game.hasLast = false;
            return many;
        }

        private int turnOfMark(int mark) {
            return mark >= 0 && mark < turns.length ? turns[mark] : NONE;
        }

        private void mark(Game game) {
            int at = marks * STATE_LONGS;
            if (marks < 0 || marks >= turns.length || at > states.length - STATE_LONGS) {
                return;
            }
            game.board.pack(states, at);
            states[at + 6] = game.seed;
            for (int i = 0; i < Game.TALLIES; i++) {
                int place = marks * Game.TALLIES + i;
                if (place < tallies.length) {
                    tallies[place] = game.tallyOf(i);
                }
            }
            turns[marks] = game.turn;
            marks++;
        }

        private boolean goTo(Game game, int mark) {
            int at = mark * STATE_LONGS;
            if (mark < 0 || mark >= turns.length || at > states.length - STATE_LONGS) {
                return false;
            }
            game.board.unpack(states, at);
            game.seed = (int) states[at + 6];
            for (int i = 0; i < Game.TALLIES && i < game.tallies.length; i++) {
                int place = mark * Game.TALLIES + i;
                game.tallies[i] = place < tallies.length ? tallies[place] : 0;
            }
            game.turn = turns[mark];
            return true;
        }

        void keepWinners(long[] from) {
            for (int i = 0; i < winners.length && i < from.length; i++) {
                winners[i] = from[i];
            }
        }
    }

    /** An IMAGE: all but the BOOK and what was refused. */
    private static final class Image {
        private final Game game;
        private final Tape tape = new Tape();
        private final long[] winners = new long[History.MOST_BOOKED / History.WINNERS_A_LONG + 1];

        Image(Table table) {
            game = new Game(table);
        }

        void take(Game now, History history, Tape texts) {
            game.become(now);
            tape.become(texts);
            for (int i = 0; i < winners.length && i < history.winners.length; i++) {
                winners[i] = history.winners[i];
            }
        }

        void bring(Game now, History history, Tape texts) {
            now.become(game);
            texts.become(tape);
            history.keepWinners(winners);
            history.settle(now.turn);
        }
    }
}
