/** The sentences of "Terms" on weeks: points, what holds for a week that is over, scores and fillings. */
public final class WeekTermsTest {
    private static final Check CHECK = new Check();

    public static void main(String[] args) {
        twentyWeeksFromZero();
        pointsAreTimesAndAdded();
        rulesOfThen();
        positionsOfThen();
        placesOfThen();
        rostersOfThen();
        benchOfNow();
        playersWhoCameLater();
        weeksAheadAsNow();
        correctionsOfAWeekThatIsOver();
        placesMayStayEmpty();
        differentPlaces();
        onlyPlacesThatTheyCanFill();
        greatestSum();
        firstUnlikeFillsTheLower();
        benchIsTheLast();
        risingNumbersNotPoints();
        fillsAgainstAllFillings();
        scoresOfOneTeamAtATime();
        finalWeeks();
        CHECK.finish();
    }

    private static void twentyWeeksFromZero() {
        DraftLeague x = Leagues.weeksOver(19);
        CHECK.due("Weeks: the last is 19", x.week(), 19);
        CHECK.due("Weeks: it ends", x.endWeek(), 20);
        CHECK.due("Weeks: the first is 0", new DraftLeague().week(), 0);
    }

    private static void pointsAreTimesAndAdded() {
        DraftLeague x = Leagues.drafted();
        int[] points = {3, -5, 7, 0};
        int[] counts = {2, 9, 99, 50};
        int due = 0;
        for (int kind = 0; kind < 4; kind++) {
            x.setRule(kind, points[kind]);
        }
        for (int kind = 0; kind < 4; kind++) {
            due += points[kind] * counts[kind];
            CHECK.due("Weeks: times and added", x.did(4, 2, kind, counts[kind]), due);
        }
        CHECK.due("Weeks: of this week", x.points(4, 2), due);
        CHECK.due("Weeks: of no other week", x.points(3, 2), 0);
        CHECK.due("Weeks: of no other week", x.points(5, 2), 0);
        CHECK.due("Weeks: of no other player", x.points(4, 1), 0);
        CHECK.due("Weeks: of no other player", x.points(4, 3), 0);
        x.did(4, 2, 0, 1);
        CHECK.due("Weeks: in place of what was told", x.points(4, 2), due - 3);
    }

    // ---- as they were when it ended

    private static void rulesOfThen() {
        DraftLeague x = Leagues.drafted();
        x.did(0, 0, 0, 1);
        x.did(1, 0, 0, 1);
        x.setRule(0, 5);
        CHECK.due("Weeks: set ahead of the end", x.points(0, 0), 5);
        x.endWeek();
        x.setRule(0, 6);
        CHECK.due("Weeks: points of then", x.points(0, 0), 5);
        CHECK.due("Weeks: score of then", x.score(0, 0), 5);
        CHECK.due("Weeks: points of now", x.points(1, 0), 6);
        x.endWeek();
        x.setRule(0, 7);
        CHECK.due("Weeks: points of the first week", x.points(0, 0), 5);
        CHECK.due("Weeks: points of the second week", x.points(1, 0), 6);
        CHECK.due("Weeks: sum of both", x.sumOf(0), 11);
        CHECK.due("Weeks: corrected by the rules of then", x.did(0, 0, 0, 3), 15);
        CHECK.due("Weeks: sum of both, corrected", x.sumOf(0), 21);
    }

    private static void positionsOfThen() {
        DraftLeague x = Leagues.drafted();
        x.setPositions(0, 4);
        x.endWeek();
        x.setPositions(0, 8);
        CHECK.due("Weeks: position of then", x.fills(0, 0, 0), 2);
        CHECK.due("Weeks: position of now", x.fills(1, 0, 0), 3);
        CHECK.due("Weeks: position ahead", x.fills(19, 0, 0), 3);
        x.endWeek();
        x.setPositions(0, 2);
        CHECK.due("Weeks: position of the first week", x.fills(0, 0, 0), 2);
        CHECK.due("Weeks: position of the second week", x.fills(1, 0, 0), 3);
        CHECK.due("Weeks: position of the third week", x.fills(2, 0, 0), 1);
    }

    private static void placesOfThen() {
        DraftLeague x = Leagues.drafted();
        Leagues.onePlace(x);
        x.did(0, 0, 0, 1);
        x.did(0, 3, 0, 1);
        x.did(1, 0, 0, 1);
        x.did(1, 3, 0, 1);
        CHECK.due("Weeks: one place", x.score(0, 0), 4);
        x.endWeek();
        x.setPlaces(0, 2);
        CHECK.due("Weeks: places of then", x.score(0, 0), 4);
        CHECK.due("Weeks: on the bench then", x.fills(0, 0, 3), -1);
        CHECK.due("Weeks: places of now", x.score(1, 0), 8);
        CHECK.due("Weeks: in a place now", x.fills(1, 0, 3), 0);
        x.did(0, 3, 0, 2);
        CHECK.due("Weeks: corrected with the places of then", x.score(0, 0), 8);
        CHECK.due("Weeks: the better one in the place of then", x.fills(0, 0, 0), -1);
    }

    private static void rostersOfThen() {
        DraftLeague x = Leagues.accepted();
        x.claim(2, 5, 2, 1);
        x.did(0, 0, 0, 5);
        x.did(0, 1, 0, 3);
        x.did(0, 2, 0, 2);
        x.did(0, 5, 0, 9);
        x.endWeek();
        CHECK.due("Weeks: the one who gave him away", x.score(0, 0), 20);
        CHECK.due("Weeks: the one who got him", x.score(0, 1), 12);
        CHECK.due("Weeks: the one who let him go", x.score(0, 2), 8);
        CHECK.due("Weeks: he filled a place then", x.fills(0, 2, 2), 0);
        x.did(0, 5, 0, 50);
        CHECK.due("Weeks: who was free then counts for none", x.score(0, 2), 8);
        x.did(0, 0, 0, 6);
        CHECK.due("Weeks: corrected for the team of then", x.score(0, 0), 24);
        CHECK.due("Weeks: not for the team of now", x.score(0, 1), 12);
        CHECK.refused("Weeks: not of the team of now", Leagues.ELEMENT, Leagues::traded, y -> y.fills(0, 1, 0));
        CHECK.refused("Weeks: not of the team of then", Leagues.ELEMENT, Leagues::traded, y -> y.fills(1, 0, 0));
        CHECK.refused("Weeks: nor ahead", Leagues.ELEMENT, Leagues::traded, y -> y.fills(19, 0, 0));
    }

    /** The bench has no part in scores: whoever is left over is on it. */
    private static void benchOfNow() {
        DraftLeague x = Leagues.played();
        x.setBench(0);
        CHECK.due("Weeks: a score without a bench", x.score(0, 0), 20);
        CHECK.due("Weeks: a score now without a bench", x.score(1, 0), 0);
    }

    private static void playersWhoCameLater() {
        DraftLeague x = Leagues.played();
        int late = x.addPlayer(15, 1);
        CHECK.due("Weeks: nothing done then", x.points(0, late), 0);
        CHECK.due("Weeks: told later", x.did(0, late, 0, 9), 36);
        x.claim(0, late, -1, 1);
        x.endWeek();
        CHECK.due("Weeks: his week ahead of the team", x.score(0, 0), 20);
        CHECK.due("Weeks: of the team now", x.fills(2, 0, late), 2);
        x.offer(0, late, 1, 0);
        CHECK.due("Weeks: all weeks count for a trade", x.tradeValue(0), 12 - 36);
        CHECK.refused("Weeks: of no team then", Leagues.ELEMENT, () -> {
            DraftLeague y = Leagues.played();
            y.addPlayer(15, 1);
            return y;
        }, y -> y.fills(0, 0, 7));
    }

    private static void weeksAheadAsNow() {
        DraftLeague x = Leagues.drafted();
        x.did(19, 0, 0, 2);
        CHECK.due("Weeks: ahead", x.score(19, 0), 8);
        x.setRule(0, 3);
        CHECK.due("Weeks: ahead, by the rules of now", x.score(19, 0), 6);
        x.setPositions(0, 8);
        CHECK.due("Weeks: ahead, by the positions of now", x.fills(19, 0, 0), 3);
        x.setPlaces(3, 0);
        CHECK.due("Weeks: ahead, by the places of now", x.score(19, 0), 0);
        x.accept(x.offer(0, 0, 1, 0));
        x.endWeek();
        x.setPlaces(3, 1);
        CHECK.due("Weeks: ahead, by the rosters of now", x.score(19, 1), 6);
        CHECK.due("Weeks: ahead, no more", x.score(19, 0), 0);
    }

    private static void correctionsOfAWeekThatIsOver() {
        DraftLeague x = Leagues.played();
        CHECK.due("Terms: told", x.result(0, 0), 2);
        x.did(0, 1, 0, 6);
        CHECK.due("Terms: the score", x.score(0, 1), 24);
        CHECK.due("Terms: the result", x.result(0, 0), 0);
        CHECK.due("Terms: the other result", x.result(0, 1), 2);
        CHECK.due("Terms: the sums of matches", x.wins(1), 2);
        CHECK.due("Terms: the sums of matches", x.wins(0), 0);
        CHECK.due("Terms: the rank", x.rank(1), 1);
        CHECK.due("Terms: the sum of scores", x.sumOf(1), 24);
        CHECK.due("Terms: the mean", x.meanScore(), 52.0 / 3);
        x.did(0, 1, 0, 3);
        CHECK.due("Terms: corrected back", x.result(0, 0), 2);
        CHECK.due("Terms: the rank, corrected back", x.rank(0), 1);
    }

    // ---- the best filling

    private static void placesMayStayEmpty() {
        DraftLeague x = Leagues.drafted();
        x.did(0, 0, 3, 1);
        CHECK.due("Score: a place stays empty", x.score(0, 0), 0);
        CHECK.due("Score: who takes away is on the bench", x.fills(0, 0, 0), -1);
        CHECK.due("Score: who does nothing fills", x.fills(0, 0, 3), 0);
        x.did(0, 3, 3, 99);
        CHECK.due("Score: all places stay empty", x.score(0, 0), 0);
        x.did(0, 0, 0, 1);
        CHECK.due("Score: 4 - 2", x.score(0, 0), 2);
        x.setPlaces(0, 0);
        x.setPlaces(1, 0);
        x.setPlaces(2, 0);
        x.setPlaces(3, 0);
        CHECK.due("Score: no places at all", x.score(0, 0), 0);
    }

    private static void differentPlaces() {
        DraftLeague x = Leagues.drafted();
        x.setPositions(0, 2);
        x.setPositions(3, 2);
        x.did(0, 0, 0, 1);
        x.did(0, 3, 0, 2);
        CHECK.due("Score: one place for two", x.score(0, 0), 8);
        x.setPlaces(1, 2);
        CHECK.due("Score: two places for two", x.score(0, 0), 12);
        x.setPlaces(1, 3);
        CHECK.due("Score: three places for two", x.score(0, 0), 12);
        x.setPlaces(1, 0);
        CHECK.due("Score: no place for two", x.score(0, 0), 0);
    }

    private static void onlyPlacesThatTheyCanFill() {
        for (int position = 0; position < 4; position++) {
            DraftLeague x = Leagues.drafted();
            x.did(0, 0, 0, 1);
            x.setPositions(0, 1 << position);
            CHECK.due("Score: the one that he can fill", x.fills(0, 0, 0), position);
            x.setPlaces(position, 0);
            CHECK.due("Score: no other", x.score(0, 0), 0);
            CHECK.due("Score: on the bench", x.fills(0, 0, 0), -1);
            x.setPositions(0, 15 - (1 << position));
            CHECK.due("Score: any other", x.score(0, 0), 4);
            CHECK.due("Score: the lowest other", x.fills(0, 0, 0), position == 0 ? 1 : 0);
        }
    }

    /** The better one gives way to the other, who can fill nothing else. */
    private static void greatestSum() {
        DraftLeague x = Leagues.drafted();
        x.setPositions(0, 3);
        x.setPositions(3, 1);
        x.did(0, 0, 0, 9);
        x.did(0, 3, 0, 1);
        CHECK.due("Score: both", x.score(0, 0), 40);
        CHECK.due("Score: the better gives way", x.fills(0, 0, 0), 1);
        CHECK.due("Score: the other fills his place", x.fills(0, 0, 3), 0);
        x.setPlaces(1, 0);
        CHECK.due("Score: the better alone", x.score(0, 0), 36);
        CHECK.due("Score: fills the only place", x.fills(0, 0, 0), 0);
        CHECK.due("Score: the other is left over", x.fills(0, 0, 3), -1);
    }

    private static void firstUnlikeFillsTheLower() {
        DraftLeague x = Leagues.drafted();
        x.did(0, 0, 0, 1);
        x.did(0, 3, 0, 1);
        CHECK.due("Score: the first fills the lowest", x.fills(0, 0, 0), 0);
        CHECK.due("Score: the second the next", x.fills(0, 0, 3), 1);
        x.setPositions(0, 14);
        CHECK.due("Score: the first fills the lowest that he can", x.fills(0, 0, 0), 1);
        CHECK.due("Score: the second the lowest left", x.fills(0, 0, 3), 0);
        x.setPositions(0, 8);
        x.setPositions(3, 8);
        CHECK.due("Score: of equals the first", x.fills(0, 0, 0), 3);
        CHECK.due("Score: of equals not the second", x.fills(0, 0, 3), -1);
        x.setPositions(3, 12);
        CHECK.due("Score: the second finds another", x.fills(0, 0, 3), 2);
    }

    /** A player of no points fills a place rather than the bench: the position counts, where sums are equal. */
    private static void benchIsTheLast() {
        DraftLeague x = Leagues.drafted();
        CHECK.due("Score: no points, the lowest", x.fills(0, 0, 0), 0);
        CHECK.due("Score: no points, the next", x.fills(0, 0, 3), 1);
        x.setPositions(0, 8);
        CHECK.due("Score: no points, the highest rather than the bench", x.fills(0, 0, 0), 3);
        x.setPlaces(3, 0);
        CHECK.due("Score: no place, the bench", x.fills(0, 0, 0), -1);
        x.setPlaces(3, 1);
        x.did(0, 0, 0, 1);
        x.did(0, 0, 3, 2);
        CHECK.due("Score: points that sum to none", x.fills(0, 0, 0), 3);
        x.did(0, 0, 3, 3);
        CHECK.due("Score: less than none", x.fills(0, 0, 0), -1);
    }

    /** The first player of no points takes the place from the second, who has none either, but not from points. */
    private static void risingNumbersNotPoints() {
        DraftLeague x = Leagues.drafted();
        Leagues.onePlace(x);
        CHECK.due("Score: the first", x.fills(0, 0, 0), 0);
        x.did(0, 3, 1, 1);
        CHECK.due("Score: the one with a point", x.fills(0, 0, 3), 0);
        CHECK.due("Score: not the first", x.fills(0, 0, 0), -1);
        x.did(0, 0, 1, 1);
        CHECK.due("Score: the first of equals", x.fills(0, 0, 0), 0);
    }

    /** Rosters of eight with few points, so that many fillings have the same sum, against every filling there is. */
    private static void fillsAgainstAllFillings() {
        Dice dice = new Dice(11);
        for (int round = 0; round < 200; round++) {
            DraftLeague x = Leagues.plain(1, 500, 8);
            int[] masks = new int[8];
            int[] gains = new int[8];
            int[] places = new int[4];
            x.setBench(6);
            for (int player = 0; player < 8; player++) {
                x.nominate(0, player, 2);
                x.knock();
                masks[player] = dice.from(1, 15) & dice.from(1, 15);
                masks[player] = masks[player] == 0 ? 1 << dice.from(0, 3) : masks[player];
                x.setPositions(player, masks[player]);
                gains[player] = (int) x.did(0, player, dice.chance(30) ? 3 : 1, dice.from(0, 1));
            }
            for (int position = 0; position < 4; position++) {
                places[position] = dice.from(0, 2);
                x.setPlaces(position, places[position]);
            }
            AllFillings all = new AllFillings(masks, gains, places);
            CHECK.due("Score: of all fillings, round " + round, x.score(0, 0), all.best());
            for (int player = 0; player < 8; player++) {
                CHECK.due("Score: the filling, round " + round, x.fills(0, 0, player), all.positionOf(player));
            }
        }
    }

    /** A small team behind a large one: what the large one's players add is not the small one's. */
    private static void scoresOfOneTeamAtATime() {
        DraftLeague x = Leagues.drafted();
        x.did(0, 3, 0, 5);
        x.did(0, 4, 0, 6);
        CHECK.due("Score: of two players", x.score(0, 0), 20);
        CHECK.due("Score: of one, who did nothing", x.score(0, 2), 0);
        CHECK.due("Score: of the two others", x.score(0, 1), 24);
        CHECK.due("Score: of one, again", x.score(0, 2), 0);
        CHECK.due("Score: a free player's points are no team's", x.did(0, 5, 0, 9), 36);
        CHECK.due("Score: of one, once more", x.score(0, 2), 0);
    }

    // ---- final weeks

    private static void finalWeeks() {
        DraftLeague x = Leagues.weeksOver(3);
        CHECK.due("27 all up to 1", x.setFinal(1), true);
        CHECK.due("27 0 was made final with it", x.setFinal(0), false);
        CHECK.due("27 1 is", x.setFinal(1), false);
        CHECK.due("27 2 is not", x.setFinal(2), true);
        CHECK.due("27 now it is", x.setFinal(2), false);
        CHECK.due("24 the running week is not", x.did(3, 0, 0, 1), 4);
        x.setRule(0, 9);
        CHECK.due("27 what is final stays", x.points(2, 0), 0);
        DraftLeague first = Leagues.weeksOver(3);
        first.setFinal(0);
        CHECK.due("24 behind what is final", first.did(1, 0, 0, 1), 4);
        first.endWeek();
        CHECK.due("24 what is over is not final by itself", first.did(3, 0, 0, 1), 4);
        for (int week = 0; week < 3; week++) {
            int number = week;
            CHECK.refused("24 final " + week, Leagues.UNSUPPORTED, () -> {
                DraftLeague y = Leagues.weeksOver(3);
                y.setFinal(2);
                return y;
            }, y -> y.did(number, 0, 0, 1));
        }
    }
}
