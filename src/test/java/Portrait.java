import java.util.function.Supplier;

/** All that a small league shows, in one text, by some 150 calls. */
final class Portrait {
    private static final int TEAMS = 3;
    private static final int PLAYERS = 8;
    private static final int OFFERS = 3;
    private static final int[] WEEKS = {0, 1};
    private static final int LAST_WEEK = 19;

    private Portrait() {
    }

    static String of(DraftLeague x) {
        StringBuilder text = new StringBuilder();
        text.append(x.week()).append(' ').append(x.players()).append(' ').append(x.pot()).append(' ');
        text.append(x.suspects()).append(' ').append(x.isSound()).append(' ');
        show(text, () -> x.turnOf());
        show(text, () -> x.meanScore());
        show(text, () -> x.freeShare());
        for (int team = 0; team < TEAMS; team++) {
            showTeam(text, x, team);
        }
        for (int player = 0; player < PLAYERS; player++) {
            showPlayer(text, x, player);
        }
        for (int offer = 0; offer < OFFERS; offer++) {
            int number = offer;
            show(text, () -> x.offerState(number));
            show(text, () -> x.tradeValue(number));
        }
        return text.toString();
    }

    private static void showTeam(StringBuilder text, DraftLeague x, int team) {
        show(text, () -> x.money(team));
        show(text, () -> x.size(team));
        show(text, () -> x.rank(team));
        show(text, () -> x.ranked(team + 1));
        show(text, () -> x.wins(team));
        show(text, () -> x.sumOf(team));
        for (int week : WEEKS) {
            show(text, () -> x.score(week, team));
            show(text, () -> x.result(week, team));
        }
    }

    private static void showPlayer(StringBuilder text, DraftLeague x, int player) {
        show(text, () -> x.ownerOf(player));
        show(text, () -> x.paidFor(player));
        show(text, () -> x.points(LAST_WEEK, player));
        for (int week : WEEKS) {
            show(text, () -> x.points(week, player));
            for (int team = 0; team < TEAMS; team++) {
                int owner = team;
                show(text, () -> x.fills(week, owner, player));
            }
        }
    }

    static void show(StringBuilder text, Supplier<Object> call) {
        Object answer;
        try {
            answer = call.get();
        } catch (RuntimeException e) {
            answer = e.getClass().getSimpleName().substring(0, 4);
        }
        text.append(answer).append(' ');
    }
}
