/** Promises 23 to 31: weeks with matches, what players did, scores and the filling of places. */
public final class SeasonTest {
    private static final Check CHECK = new Check();

    public static void main(String[] args) {
        meet();
        meetAhead();
        meetRefused();
        did();
        didRefused();
        endWeek();
        setFinal();
        points();
        score();
        scoreOfWeeksThatAreOver();
        fillsByRisingNumbers();
        fillsAgainstBruteForce();
        fillsOfAFullSquad();
        fillsRefused();
        result();
        CHECK.finish();
    }

    private static void meet() {
        DraftLeague x = Leagues.ready();
        CHECK.due("23 in the draft", x.meet(0, 0, 1), true);
        CHECK.due("23 the same match", x.meet(0, 0, 1), false);
        CHECK.due("23 the other way", x.meet(0, 1, 0), false);
        CHECK.due("23 one has a match", x.meet(0, 2, 1), false);
        CHECK.due("23 the other has one", x.meet(0, 0, 2), false);
        CHECK.due("23 another week", x.meet(19, 2, 1), true);
        DraftLeague y = Leagues.played();
        CHECK.due("23 the running week", y.meet(1, 0, 1), true);
    }

    /** Matches of several weeks, set in the first one: each week has its own. */
    private static void meetAhead() {
        DraftLeague x = Leagues.drafted();
        CHECK.due("23 a week ahead", x.meet(2, 0, 1), true);
        CHECK.due("23 the running week is free", x.meet(0, 1, 2), true);
        CHECK.due("23 the week ahead is not", x.meet(2, 2, 0), false);
        CHECK.due("23 the week between is", x.meet(1, 2, 0), true);
        x.did(0, 2, 0, 1);
        x.did(1, 2, 0, 1);
        x.did(2, 0, 0, 1);
        for (int week = 0; week < 3; week++) {
            x.endWeek();
        }
        CHECK.due("31 of the first week", x.result(0, 2), 2);
        CHECK.due("31 of the first week", x.result(0, 1), 0);
        CHECK.due("31 of the second week", x.result(1, 2), 2);
        CHECK.due("31 of the second week", x.result(1, 0), 0);
        CHECK.due("31 of the third week", x.result(2, 0), 2);
        CHECK.due("31 of the third week", x.result(2, 1), 0);
        for (int week = 0; week < 3; week++) {
            int number = week;
            CHECK.refused("31 no match in this week", Leagues.ELEMENT, SeasonTest::threeMatches,
                    y -> y.result(number, number));
        }
    }

    /** In each week the team of its number has no match. */
    private static DraftLeague threeMatches() {
        DraftLeague x = Leagues.drafted();
        x.meet(2, 0, 1);
        x.meet(0, 1, 2);
        x.meet(1, 2, 0);
        for (int week = 0; week < 3; week++) {
            x.endWeek();
        }
        return x;
    }

    private static void meetRefused() {
        CHECK.refused("23 no team", Leagues.INDEX, Leagues::played, y -> y.meet(0, 3, 3));
        CHECK.refused("23 team -1", Leagues.INDEX, Leagues::played, y -> y.meet(1, -1, 0));
        CHECK.refused("23 no other", Leagues.INDEX, Leagues::played, y -> y.meet(20, 0, 3));
        CHECK.refused("23 other -1", Leagues.INDEX, Leagues::played, y -> y.meet(1, 0, -1));
        CHECK.refused("23 week -1", Leagues.ARGUMENT, Leagues::drafted, y -> y.meet(-1, 0, 1));
        CHECK.refused("23 week 20", Leagues.ARGUMENT, Leagues::drafted, y -> y.meet(20, 0, 1));
        CHECK.refused("23 a week that is over", Leagues.ARGUMENT, Leagues::played, y -> y.meet(0, 0, 2));
        CHECK.refused("23 the last is over", Leagues.ARGUMENT, () -> Leagues.weeksOver(20), y -> y.meet(19, 0, 1));
        CHECK.refused("23 both the same", Leagues.ARGUMENT, Leagues::drafted, y -> y.meet(0, 1, 1));
    }

    private static void did() {
        DraftLeague x = Leagues.ready();
        CHECK.due("24 in the draft", x.did(0, 0, 0, 3), 12);
        CHECK.due("24 adds kinds", x.did(0, 0, 1, 5), 17);
        CHECK.due("24 counts for nothing", x.did(0, 0, 2, 99), 17);
        CHECK.due("24 takes away", x.did(0, 0, 3, 10), -3);
        CHECK.due("24 in place of what was told", x.did(0, 0, 0, 1), -11);
        CHECK.due("24 none", x.did(0, 0, 3, 0), 9);
        CHECK.due("24 another player", x.did(0, 1, 0, 99), 396);
        CHECK.due("24 another week", x.did(19, 0, 1, 99), 99);
        DraftLeague over = Leagues.played();
        CHECK.due("24 corrects a week that is over", over.did(0, 0, 0, 1), 4);
        CHECK.due("24 the score is corrected", over.score(0, 0), 4);
        CHECK.due("24 the result is corrected", over.result(0, 0), 0);
        CHECK.due("24 both results", over.result(0, 1), 2);
        CHECK.due("24 the table is corrected", over.rank(1), 1);
        CHECK.due("24 the sum is corrected", over.sumOf(0), 4);
        CHECK.due("24 a free player", over.did(0, 6, 0, 1), 4);
    }

    private static void didRefused() {
        CHECK.refused("24 no player", Leagues.INDEX, Leagues::played, y -> y.did(0, 7, 4, 1));
        CHECK.refused("24 player -1", Leagues.INDEX, Leagues::played, y -> y.did(20, -1, 0, 1));
        CHECK.refused("24 week -1", Leagues.ARGUMENT, SeasonTest::closed, y -> y.did(-1, 0, 0, 1));
        CHECK.refused("24 week 20", Leagues.ARGUMENT, Leagues::played, y -> y.did(20, 0, 0, 1));
        CHECK.refused("24 kind -1", Leagues.ARGUMENT, SeasonTest::closed, y -> y.did(0, 0, -1, 1));
        CHECK.refused("24 kind 4", Leagues.ARGUMENT, SeasonTest::closed, y -> y.did(0, 0, 4, 1));
        CHECK.refused("24 count -1", Leagues.ARGUMENT, SeasonTest::closed, y -> y.did(0, 0, 0, -1));
        CHECK.refused("24 count 100", Leagues.ARGUMENT, SeasonTest::closed, y -> y.did(0, 0, 0, 100));
        CHECK.refused("24 final", Leagues.UNSUPPORTED, SeasonTest::closed, y -> y.did(0, 0, 0, 1));
        CHECK.refused("24 a free player of a final week", Leagues.UNSUPPORTED, SeasonTest::closed,
                y -> y.did(0, 6, 3, 0));
        CHECK.due("24 behind what is final", closed().did(1, 0, 0, 1), 4);
    }

    private static DraftLeague closed() {
        DraftLeague x = Leagues.played();
        x.setFinal(0);
        return x;
    }

    private static void endWeek() {
        DraftLeague x = Leagues.drafted();
        for (int week = 0; week < 20; week++) {
            CHECK.due("26 week", x.week(), week);
            CHECK.due("25 the week that begins", x.endWeek(), week + 1);
        }
        CHECK.due("26 behind all weeks", x.week(), 20);
        CHECK.refused("25 all over", Leagues.STATE, () -> Leagues.weeksOver(20), y -> y.endWeek());
        CHECK.refused("25 draft not over", Leagues.STATE, Leagues::sold, y -> y.endWeek());
        CHECK.refused("25 a player is up", Leagues.STATE, Leagues::running, y -> y.endWeek());
        DraftLeague none = new DraftLeague();
        none.endDraft();
        CHECK.due("25 without teams", none.endWeek(), 1);
    }

    private static void setFinal() {
        DraftLeague x = Leagues.weeksOver(3);
        CHECK.due("27 was not", x.setFinal(1), true);
        CHECK.due("27 was", x.setFinal(1), false);
        CHECK.due("27 all up to it", x.setFinal(0), false);
        CHECK.due("27 a later one is not", x.did(2, 0, 0, 1), 4);
        CHECK.due("27 a later one", x.setFinal(2), true);
        CHECK.refused("27 running", Leagues.ARGUMENT, Leagues::played, y -> y.setFinal(1));
        CHECK.refused("27 ahead", Leagues.ARGUMENT, Leagues::played, y -> y.setFinal(7));
        CHECK.refused("27 week -1", Leagues.ARGUMENT, Leagues::played, y -> y.setFinal(-1));
        CHECK.refused("27 week 20", Leagues.ARGUMENT, () -> Leagues.weeksOver(20), y -> y.setFinal(20));
        CHECK.due("27 the last week", Leagues.weeksOver(20).setFinal(19), true);
        DraftLeague stays = closed();
        stays.setFinal(0);
        CHECK.refused("27 stays final", Leagues.UNSUPPORTED, () -> twoClosed(), y -> y.did(1, 0, 0, 1));
        CHECK.due("27 scores stay", stays.score(0, 0), 20);
    }

    private static DraftLeague twoClosed() {
        DraftLeague x = Leagues.weeksOver(2);
        x.setFinal(1);
        x.setFinal(0);
        return x;
    }

    private static void points() {
        DraftLeague x = Leagues.played();
        CHECK.due("28 a week that is over", x.points(0, 0), 20);
        CHECK.due("28 nothing", x.points(1, 0), 0);
        CHECK.due("28 the last week", x.points(19, 6), 0);
        x.did(1, 0, 0, 2);
        x.did(0, 0, 3, 1);
        x.setRule(0, 7);
        x.setRule(3, 5);
        CHECK.due("28 by the rules now", x.points(1, 0), 14);
        CHECK.due("28 by the rules then", x.points(0, 0), 18);
        CHECK.due("28 corrected by the rules then", x.did(0, 0, 0, 6), 22);
        CHECK.refused("28 no player", Leagues.INDEX, Leagues::played, y -> y.points(20, 7));
        CHECK.refused("28 player -1", Leagues.INDEX, Leagues::played, y -> y.points(0, -1));
        CHECK.refused("28 week -1", Leagues.ARGUMENT, Leagues::played, y -> y.points(-1, 0));
        CHECK.refused("28 week 20", Leagues.ARGUMENT, Leagues::played, y -> y.points(20, 0));
        CHECK.refused("28 week 20, all over", Leagues.ARGUMENT, () -> Leagues.weeksOver(20), y -> y.points(20, 0));
    }

    private static void score() {
        DraftLeague x = Leagues.drafted();
        CHECK.due("29 nothing done", x.score(0, 0), 0);
        x.did(0, 0, 0, 2);
        x.did(0, 3, 1, 3);
        CHECK.due("29 both", x.score(0, 0), 11);
        x.did(0, 3, 3, 2);
        CHECK.due("29 a place stays empty", x.score(0, 0), 8);
        x.setPositions(0, 1);
        x.setPositions(3, 1);
        x.did(0, 3, 0, 3);
        CHECK.due("29 one place for both", x.score(0, 0), 11);
        x.setPlaces(0, 2);
        CHECK.due("29 two places for both", x.score(0, 0), 19);
        CHECK.due("29 a week ahead", x.score(19, 0), 0);
        CHECK.refused("29 no team", Leagues.INDEX, Leagues::played, y -> y.score(20, 3));
        CHECK.refused("29 team -1", Leagues.INDEX, Leagues::played, y -> y.score(0, -1));
        CHECK.refused("29 week -1", Leagues.ARGUMENT, Leagues::played, y -> y.score(-1, 0));
        CHECK.refused("29 week 20", Leagues.ARGUMENT, Leagues::played, y -> y.score(20, 0));
        CHECK.due("29 a team without players", Leagues.ready().score(0, 0), 0);
    }

    private static void scoreOfWeeksThatAreOver() {
        DraftLeague x = Leagues.played();
        x.setRule(0, 9);
        x.setPlaces(0, 0);
        x.setPlaces(1, 0);
        x.setPlaces(2, 0);
        x.setPositions(0, 8);
        x.setPositions(3, 8);
        x.did(1, 0, 0, 1);
        x.did(1, 3, 1, 1);
        CHECK.due("29 now", x.score(1, 0), 9);
        CHECK.due("29 then", x.score(0, 0), 20);
        x.did(0, 3, 0, 2);
        CHECK.due("29 corrected by what held then", x.score(0, 0), 28);
        x.accept(x.offer(0, 0, 1, 0));
        x.endWeek();
        CHECK.due("29 with the roster of then", x.score(1, 0), 9);
        CHECK.due("29 with the roster of now", x.score(2, 1), 0);
        x.did(0, 0, 0, 0);
        CHECK.due("29 a correction counts for the team of then", x.score(0, 0), 8);
        CHECK.due("29 and for no other", x.score(0, 1), 12);
    }

    private static void fillsByRisingNumbers() {
        DraftLeague x = Leagues.drafted();
        CHECK.due("30 the lower position first", x.fills(0, 0, 0), 0);
        CHECK.due("30 the next one behind", x.fills(0, 0, 3), 1);
        x.setPositions(0, 12);
        CHECK.due("30 the lowest that it can fill", x.fills(0, 0, 0), 2);
        x.setPositions(0, 1);
        x.setPositions(3, 1);
        CHECK.due("30 the first of equals", x.fills(0, 0, 0), 0);
        CHECK.due("30 the bench is the last", x.fills(0, 0, 3), -1);
        x.did(0, 3, 1, 1);
        CHECK.due("30 the score first", x.fills(0, 0, 0), -1);
        CHECK.due("30 the better one", x.fills(0, 0, 3), 0);
        x.setPositions(0, 3);
        CHECK.due("30 makes place", x.fills(0, 0, 0), 1);
        x.did(0, 0, 3, 1);
        CHECK.due("30 less than nothing is on the bench", x.fills(0, 0, 0), -1);
        x.endWeek();
        CHECK.due("30 a week that is over", x.fills(0, 0, 3), 0);
        x.did(0, 0, 3, 0);
        CHECK.due("30 corrected", x.fills(0, 0, 0), 1);
    }

    /** Rosters of seven with all kinds of positions, against every filling there is. */
    private static void fillsAgainstBruteForce() {
        Dice dice = new Dice(7);
        for (int round = 0; round < 400; round++) {
            DraftLeague x = Leagues.plain(1, 500, 7);
            int[] masks = new int[7];
            int[] gains = new int[7];
            int[] places = new int[4];
            for (int player = 0; player < 7; player++) {
                x.nominate(0, player, 2);
                x.knock();
                masks[player] = dice.from(1, 15);
                x.setPositions(player, masks[player]);
                x.did(0, player, 0, dice.from(0, 3));
                gains[player] = (int) x.did(0, player, 3, dice.from(0, 3));
            }
            for (int position = 0; position < 4; position++) {
                places[position] = dice.from(0, 3) * dice.from(0, 1);
                x.setPlaces(position, places[position]);
            }
            AllFillings all = new AllFillings(masks, gains, places);
            CHECK.due("29 of all fillings, round " + round, x.score(0, 0), all.best());
            for (int player = 0; player < 7; player++) {
                CHECK.due("30 of all fillings, round " + round, x.fills(0, 0, player), all.positionOf(player));
            }
        }
    }

    /** The largest squad there is: three places for each position, and six on the bench. */
    private static void fillsOfAFullSquad() {
        DraftLeague x = Leagues.plain(1, 500, 19);
        x.setBench(6);
        for (int position = 0; position < 4; position++) {
            x.setPlaces(position, 3);
        }
        for (int player = 0; player < 18; player++) {
            x.nominate(0, player, 2);
            x.knock();
            x.did(0, player, 1, player);
        }
        CHECK.due("17 a full squad", x.size(0), 18);
        x.endDraft();
        CHECK.due("29 the twelve best", x.score(0, 0), 6 + 7 + 8 + 9 + 10 + 11 + 12 + 13 + 14 + 15 + 16 + 17);
        for (int player = 0; player < 18; player++) {
            CHECK.due("30 of a full squad", x.fills(0, 0, player), player < 6 ? -1 : (player - 6) / 3);
        }
        x.claim(0, 18, -1, 1);
        x.endWeek();
        CHECK.due("18 a full squad has no room", x.ownerOf(18), -1);
        CHECK.due("29 the twelve best, over", x.score(0, 0), 138);
    }

    private static void fillsRefused() {
        CHECK.refused("30 no team", Leagues.INDEX, Leagues::played, y -> y.fills(20, 3, 0));
        CHECK.refused("30 team -1", Leagues.INDEX, Leagues::played, y -> y.fills(0, -1, 0));
        CHECK.refused("30 no player", Leagues.INDEX, Leagues::played, y -> y.fills(0, 0, 7));
        CHECK.refused("30 player -1", Leagues.INDEX, Leagues::played, y -> y.fills(0, 0, -1));
        CHECK.refused("30 week -1", Leagues.ARGUMENT, Leagues::played, y -> y.fills(-1, 0, 1));
        CHECK.refused("30 week 20", Leagues.ARGUMENT, Leagues::played, y -> y.fills(20, 0, 1));
        CHECK.refused("30 of another team", Leagues.ELEMENT, Leagues::played, y -> y.fills(0, 0, 1));
        CHECK.refused("30 free", Leagues.ELEMENT, Leagues::played, y -> y.fills(0, 0, 5));
        CHECK.refused("30 of another team now", Leagues.ELEMENT, SeasonTest::swapped, y -> y.fills(2, 0, 0));
        CHECK.refused("30 of another team then", Leagues.ELEMENT, SeasonTest::swapped, y -> y.fills(1, 1, 0));
        CHECK.due("30 of this team then", swapped().fills(1, 0, 0), 0);
        CHECK.due("30 of this team now", swapped().fills(2, 1, 0), 0);
    }

    private static DraftLeague swapped() {
        DraftLeague x = Leagues.played();
        x.accept(x.offer(0, 0, 1, 0));
        x.endWeek();
        return x;
    }

    private static void result() {
        DraftLeague x = Leagues.played();
        CHECK.due("31 won", x.result(0, 0), 2);
        CHECK.due("31 lost", x.result(0, 1), 0);
        x.did(0, 0, 0, 3);
        CHECK.due("31 a draw", x.result(0, 0), 1);
        CHECK.due("31 a draw of both", x.result(0, 1), 1);
        CHECK.refused("31 no team", Leagues.INDEX, Leagues::played, y -> y.result(1, 3));
        CHECK.refused("31 team -1", Leagues.INDEX, Leagues::played, y -> y.result(0, -1));
        CHECK.refused("31 not over", Leagues.ARGUMENT, Leagues::played, y -> y.result(1, 0));
        CHECK.refused("31 week -1", Leagues.ARGUMENT, Leagues::played, y -> y.result(-1, 0));
        CHECK.refused("31 week 20", Leagues.ARGUMENT, () -> Leagues.weeksOver(20), y -> y.result(20, 0));
        CHECK.refused("31 no match", Leagues.ELEMENT, Leagues::played, y -> y.result(0, 2));
    }
}
