/** Promises 32 to 35: the table. */
public final class TableTest {
    private static final Check CHECK = new Check();

    public static void main(String[] args) {
        ranksByNumber();
        ranksByScores();
        ranksByMatches();
        winsAndSums();
        onlyWeeksThatAreOver();
        refused();
        CHECK.finish();
    }

    private static void table(String what, DraftLeague x, int... teams) {
        for (int rank = 1; rank <= teams.length; rank++) {
            CHECK.due("33 " + what, x.ranked(rank), teams[rank - 1]);
            CHECK.due("32 " + what, x.rank(teams[rank - 1]), rank);
        }
    }

    private static void ranksByNumber() {
        table("in the draft", Leagues.ready(), 0, 1, 2);
        table("nothing done", Leagues.weeksOver(2), 0, 1, 2);
    }

    private static void ranksByScores() {
        DraftLeague x = Leagues.drafted();
        x.did(0, 1, 0, 3);
        x.did(0, 2, 0, 5);
        x.endWeek();
        table("by scores", x, 2, 1, 0);
        x.did(1, 0, 0, 9);
        x.endWeek();
        table("by sums of scores", x, 0, 2, 1);
        x.did(0, 1, 0, 5);
        table("equal sums by number", x, 0, 1, 2);
    }

    private static void ranksByMatches() {
        DraftLeague x = Leagues.drafted();
        x.meet(0, 0, 1);
        x.did(0, 1, 1, 1);
        x.did(0, 2, 0, 50);
        x.endWeek();
        table("a match ahead of scores", x, 1, 2, 0);
        x.meet(1, 1, 2);
        x.endWeek();
        table("a draw of 0", x, 1, 2, 0);
        x.did(1, 2, 0, 1);
        table("equal matches by scores", x, 2, 1, 0);
        CHECK.due("34 won and lost", x.wins(1), 2);
        CHECK.due("34 won", x.wins(2), 2);
    }

    private static void winsAndSums() {
        DraftLeague x = Leagues.drafted();
        for (int week = 0; week < 20; week++) {
            x.meet(week, week % 2 == 0 ? 0 : 2, 1);
            x.did(week, 0, 0, 1);
            x.did(week, 3, 1, 2);
            x.did(week, 1, 1, week % 3 == 0 ? 6 : 7);
            x.did(week, 2, 3, 1);
            x.endWeek();
        }
        CHECK.due("34 draws", x.wins(0), 4);
        CHECK.due("34 won of both", x.wins(1), 4 + 12 + 20);
        CHECK.due("34 lost", x.wins(2), 0);
        CHECK.due("35 sum", x.sumOf(0), 120);
        CHECK.due("35 sum", x.sumOf(1), 6 * 7 + 7 * 13);
        CHECK.due("35 an empty place takes nothing away", x.sumOf(2), 0);
        table("behind all weeks", x, 1, 0, 2);
        x.did(19, 0, 0, 0);
        CHECK.due("35 corrected", x.sumOf(0), 116);
    }

    private static void onlyWeeksThatAreOver() {
        DraftLeague x = Leagues.drafted();
        x.meet(0, 0, 1);
        x.did(0, 1, 0, 5);
        CHECK.due("34 the running week", x.wins(1), 0);
        CHECK.due("35 the running week", x.sumOf(1), 0);
        table("the running week", x, 0, 1, 2);
    }

    private static void refused() {
        CHECK.refused("32 no team", Leagues.INDEX, Leagues::played, y -> y.rank(3));
        CHECK.refused("32 team -1", Leagues.INDEX, Leagues::played, y -> y.rank(-1));
        CHECK.refused("33 rank 0", Leagues.INDEX, Leagues::played, y -> y.ranked(0));
        CHECK.refused("33 rank 4", Leagues.INDEX, Leagues::played, y -> y.ranked(4));
        CHECK.refused("33 rank -1", Leagues.INDEX, Leagues::played, y -> y.ranked(-1));
        CHECK.refused("33 no teams", Leagues.INDEX, Leagues::empty, y -> y.ranked(1));
        CHECK.refused("34 no team", Leagues.INDEX, Leagues::played, y -> y.wins(3));
        CHECK.refused("34 team -1", Leagues.INDEX, Leagues::played, y -> y.wins(-1));
        CHECK.refused("35 no team", Leagues.INDEX, Leagues::played, y -> y.sumOf(3));
        CHECK.refused("35 team -1", Leagues.INDEX, Leagues::played, y -> y.sumOf(-1));
    }
}
