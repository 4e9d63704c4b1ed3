import java.util.function.Supplier;

/** All that a small league shows, in one text: two portraits of it stay far below 512 calls. */
final class Portrait {
    private static final int TEAMS = 3;
    private static final int PLAYERS = 8;
    private static final int OFFERS = 3;
    private static final int WEEKS = 2;

    private Portrait() {
    }

    static String of(DraftLeague x) {
        StringBuilder text = new StringBuilder();
        text.append(x.week()).append(' ').append(x.players()).append(' ').append(x.pot()).append(' ');
        text.append(x.suspects()).append(' ').append(x.isSound()).append(' ');
        show(text, () -> x.turnOf());
        show(text, () -> x.meanScore());
        for (int team = 0; team < TEAMS; team++) {
            showTeam(text, x, team);
        }
        for (int player = 0; player < PLAYERS; player++) {
            showPlayer(text, x, player);
        }
        for (int offer = 0; offer < OFFERS; offer++) {
            int number = offer;
            show(text, () -> x.offerState(number));
        }
        return text.toString();
    }

    private static void showTeam(StringBuilder text, DraftLeague x, int team) {
        show(text, () -> x.money(team));
        show(text, () -> x.size(team));
        show(text, () -> x.rank(team));
        show(text, () -> x.wins(team));
        show(text, () -> x.sumOf(team));
        for (int week = 0; week < WEEKS; week++) {
            int number = week;
            show(text, () -> x.score(number, team));
            show(text, () -> x.result(number, team));
        }
    }

    private static void showPlayer(StringBuilder text, DraftLeague x, int player) {
        show(text, () -> x.ownerOf(player));
        show(text, () -> x.paidFor(player));
        for (int week = 0; week < WEEKS; week++) {
            int number = week;
            show(text, () -> x.points(number, player));
            for (int team = 0; team < TEAMS; team++) {
                int owner = team;
                show(text, () -> x.fills(number, owner, player));
            }
        }
    }

    private static void show(StringBuilder text, Supplier<Object> call) {
        Object answer;
        try {
            answer = call.get();
        } catch (RuntimeException e) {
            answer = e.getClass().getSimpleName().substring(0, 4);
        }
        text.append(answer).append(' ');
    }
}
