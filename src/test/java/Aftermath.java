/**
 * What a league shows, and what it answers to the calls that could come next. Two leagues that differ in anything
 * that a call can reach, shown or not (proxies, votes, matches, claims), answer unlike. The league is used up.
 */
final class Aftermath {
    private static final int TEAMS = 3;
    private static final int PLAYERS = 8;
    private static final int OFFERS = 3;
    private static final int[] WEEKS = {0, 1, 19};

    private final DraftLeague league;
    private final StringBuilder text = new StringBuilder();

    private Aftermath(DraftLeague league) {
        this.league = league;
    }

    static String of(DraftLeague league) {
        Aftermath after = new Aftermath(league);
        after.text.append(Portrait.of(league));
        after.draft();
        after.matches();
        after.market();
        after.text.append(Portrait.of(league));
        after.settings();
        return after.text.toString();
    }

    private void draft() {
        for (int team = 0; team < TEAMS; team++) {
            for (int player = 0; player < PLAYERS; player++) {
                int owner = team;
                int number = player;
                Portrait.show(text, () -> league.proxy(owner, number, 0));
            }
        }
        Portrait.show(text, () -> league.knock());
        Portrait.show(text, () -> league.turnOf());
        Portrait.show(text, () -> league.addTeam(1));
        Portrait.show(text, () -> league.endDraft());
    }

    private void matches() {
        for (int week : WEEKS) {
            Portrait.show(text, () -> league.meet(week, 0, 1));
            Portrait.show(text, () -> league.meet(week, 1, 2));
            Portrait.show(text, () -> league.meet(week, 2, 0));
            Portrait.show(text, () -> league.did(week, 0, 2, 1));
        }
    }

    private void market() {
        for (int offer = 0; offer < OFFERS; offer++) {
            for (int team = 0; team < TEAMS; team++) {
                int number = offer;
                int judge = team;
                Portrait.show(text, () -> league.veto(number, judge));
            }
        }
        for (int player = 0; player < PLAYERS; player++) {
            int claimed = player;
            Portrait.show(text, () -> league.claim(0, claimed, -1, 0));
        }
        Portrait.show(text, () -> league.offer(0, 0, 1, 0));
        Portrait.show(text, () -> league.endWeek());
    }

    private void settings() {
        for (int position = 0; position < 4; position++) {
            int number = position;
            Portrait.show(text, () -> league.setPlaces(number, 0));
            Portrait.show(text, () -> league.setRule(number, 0));
        }
        Portrait.show(text, () -> league.setBench(0));
        for (int player = 0; player < PLAYERS; player++) {
            int number = player;
            Portrait.show(text, () -> league.setPositions(number, 1));
        }
        Portrait.show(text, () -> league.addPlayer(1, 1));
    }
}
