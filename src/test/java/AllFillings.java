/** Tries every filling of a small roster, in the order in which the document prefers them. */
final class AllFillings {
    private final int[] masks;
    private final int[] gains;
    private final int[] left;
    private final int[] tried;
    private int[] chosen;
    private int best;

    AllFillings(int[] masks, int[] gains, int[] places) {
        this.masks = masks;
        this.gains = gains;
        this.left = places.clone();
        this.tried = new int[masks.length];
        tryFrom(0, 0);
    }

    int best() {
        return best;
    }

    int positionOf(int player) {
        return chosen[player];
    }

    /** The lower positions are tried first and the bench last, so that the first of equal sums is the due one. */
    private void tryFrom(int player, int sum) {
        if (player == masks.length) {
            if (chosen == null || sum > best) {
                best = sum;
                chosen = tried.clone();
            }
            return;
        }
        for (int position = 0; position < 4; position++) {
            if ((masks[player] >> position & 1) == 1 && left[position] > 0) {
                left[position]--;
                tried[player] = position;
                tryFrom(player + 1, sum + gains[player]);
                left[position]++;
            }
        }
        tried[player] = -1;
        tryFrom(player + 1, sum);
    }
}
