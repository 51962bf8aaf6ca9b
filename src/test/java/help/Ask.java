/** All answers of a call at once. */
final class Ask {
    private Ask() {
    }

    static int[] tolds(SnapHeaps x) {
        int[] all = new int[9];
        for (int i = 0; i < all.length; i++) {
            all[i] = x.told(i);
        }
        return all;
    }

    static int[] men(SnapHeaps x, int player) {
        int[] all = new int[8];
        for (int i = 0; i < all.length; i++) {
            all[i] = x.player(player, i);
        }
        return all;
    }

    static int[] latest(SnapHeaps x) {
        int[] all = new int[5];
        for (int i = 0; i < all.length; i++) {
            all[i] = x.latest(i);
        }
        return all;
    }

    static int[] calls(SnapHeaps x, int player) {
        int[] all = new int[6];
        for (int i = 0; i < all.length; i++) {
            all[i] = x.calls(player, i);
        }
        return all;
    }

    static int[] ends(SnapHeaps x) {
        int[] all = new int[4];
        for (int i = 0; i < all.length; i++) {
            all[i] = x.ends(i);
        }
        return all;
    }

    static int[] lot(SnapHeaps x, int seed, int many) {
        int[] all = new int[6];
        for (int i = 0; i < all.length; i++) {
            all[i] = x.lot(seed, many, i);
        }
        return all;
    }

    /** His ROW as letters, a large one for a card that has lain open. */
    static String row(SnapHeaps x, int player) {
        StringBuilder row = new StringBuilder();
        for (int i = 0; x.row(player, i) != SnapHeaps.NONE; i++) {
            row.append((char) ((x.lain(player, i) == 1 ? 'A' : 'a') + x.row(player, i)));
        }
        return row.toString();
    }

    static String heap(SnapHeaps x, int player) {
        StringBuilder heap = new StringBuilder();
        for (int i = 0; x.heap(player, i) != SnapHeaps.NONE; i++) {
            heap.append((char) ('a' + x.heap(player, i)));
        }
        return heap.toString();
    }

    static String pool(SnapHeaps x) {
        StringBuilder pool = new StringBuilder();
        for (int i = 0; x.pool(i) != SnapHeaps.NONE; i++) {
            pool.append((char) ('a' + x.pool(i)));
        }
        return pool.toString();
    }

    /** ROWS and heaps of all, and the POOL, in one text. */
    static String board(SnapHeaps x) {
        StringBuilder all = new StringBuilder();
        for (int p = 0; p < x.told(0); p++) {
            all.append(row(x, p)).append('/').append(heap(x, p)).append(' ');
        }
        return all.append(pool(x)).toString();
    }
}
