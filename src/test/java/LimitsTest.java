/** None, one, and as many as there may be: of teams, players, claims, offers, weeks, places and a bench. */
public final class LimitsTest {
    private static final Check CHECK = new Check();

    public static void main(String[] args) {
        noTeam();
        noTeamInTheSeason();
        oneTeam();
        twoTeams();
        eightTeams();
        eightTeamsTrade();
        eightTeamsMeet();
        noPlayer();
        onePlayer();
        sixtyPlayers();
        noClaim();
        oneClaim();
        fortyClaims();
        fortyClaimsEachWeek();
        noOffer();
        oneOffer();
        thirtyOffers();
        noWeek();
        oneWeek();
        twentyWeeks();
        lastWeek();
        noPlaces();
        onePlace();
        allPlaces();
        noBench();
        fullBench();
        noMoney();
        CHECK.finish();
    }

    // ---- teams

    private static void noTeam() {
        CHECK.refused("12 nobody's turn", Leagues.ELEMENT, Leagues::empty, x -> x.turnOf());
        CHECK.refused("8 nobody nominates", Leagues.INDEX, () -> Leagues.plain(0, 0, 1), x -> x.nominate(0, 0, 2));
        CHECK.refused("10 nobody bids by itself", Leagues.INDEX, () -> Leagues.plain(0, 0, 1), x -> x.proxy(0, 0, 2));
        CHECK.refused("11 nobody can get", Leagues.STATE, () -> Leagues.plain(0, 0, 1), x -> x.knock());
        CHECK.refused("33 no rank 1", Leagues.INDEX, Leagues::empty, x -> x.ranked(1));
        CHECK.refused("23 no match", Leagues.INDEX, Leagues::empty, x -> x.meet(0, 0, 1));
        CHECK.due("38 pot of none", new DraftLeague().pot(), 0);
        CHECK.due("42 none is sound", new DraftLeague().isSound(), true);
    }

    private static void noTeamInTheSeason() {
        DraftLeague x = Leagues.plain(0, 0, 2);
        CHECK.due("13 all free", x.endDraft(), 2);
        CHECK.due("24 players play", x.did(0, 1, 0, 5), 20);
        for (int week = 0; week < 20; week++) {
            CHECK.due("25 weeks pass", x.endWeek(), week + 1);
        }
        CHECK.due("28 what a free player did", x.points(0, 1), 20);
        CHECK.due("36 no trades", x.suspects(), 0);
        CHECK.due("40 all are free", x.freeShare(), 1f);
        CHECK.due("42 sound", x.isSound(), true);
        CHECK.refused("41 no teams", Leagues.ARITHMETIC, () -> {
            DraftLeague y = Leagues.plain(0, 0, 2);
            y.endDraft();
            y.endWeek();
            return y;
        }, y -> y.meanScore());
    }

    private static void oneTeam() {
        DraftLeague x = Leagues.plain(1, 50, 4);
        CHECK.due("12 its turn", x.turnOf(), 0);
        x.proxy(0, 0, 40);
        CHECK.due("8 leads", x.nominate(0, 0, 2), 0);
        CHECK.due("11 gets", x.knock(), 0);
        CHECK.due("10 bids nothing against itself", x.paidFor(0), 2);
        CHECK.due("12 its turn again", x.turnOf(), 0);
        x.endDraft();
        CHECK.due("32 the first", x.rank(0), 1);
        CHECK.due("33 the first", x.ranked(1), 0);
        CHECK.due("18 claims", x.claim(0, 1, -1, 3), 1);
        x.did(0, 0, 0, 2);
        x.endWeek();
        CHECK.due("18 claimed", x.ownerOf(1), 0);
        CHECK.due("41 mean of one", x.meanScore(), 8.0);
        CHECK.due("34 no matches", x.wins(0), 0);
        CHECK.refused("33 no second", Leagues.INDEX, () -> Leagues.plain(1, 50, 4), y -> y.ranked(2));
        CHECK.refused("23 no other team", Leagues.ARGUMENT, () -> Leagues.plain(1, 50, 4), y -> y.meet(0, 0, 0));
    }

    /** None of two teams has no part in their trade: of none, more than half can't vote. */
    private static void twoTeams() {
        DraftLeague x = Leagues.plain(2, 50, 2);
        for (int team = 0; team < 2; team++) {
            x.nominate(team, team, 5);
            x.knock();
        }
        CHECK.due("12 around", x.turnOf(), 0);
        x.endDraft();
        x.accept(x.offer(1, 1, 0, 0));
        x.endWeek();
        CHECK.due("22 done without judges", x.offerState(0), 'd');
        CHECK.due("22 changed teams", x.ownerOf(0), 1);
    }

    /** Each of eight teams has the player of its number; the draft is over. */
    private static DraftLeague eight() {
        DraftLeague x = Leagues.plain(8, 50, 9);
        for (int team = 0; team < 8; team++) {
            CHECK.due("12 the turn of each", x.turnOf(), team);
            x.nominate(team, team, 5);
            x.knock();
        }
        CHECK.due("12 behind the last team", x.turnOf(), 0);
        x.endDraft();
        return x;
    }

    private static void eightTeams() {
        DraftLeague x = eight();
        CHECK.due("38 pot of all", x.pot(), 40);
        CHECK.due("40 one is free", x.freeShare(), 1f / 9f);
        for (int team = 0; team < 8; team++) {
            CHECK.due("32 ranks by numbers", x.rank(team), team + 1);
            x.did(0, team, 0, team);
        }
        for (int team = 0; team < 8; team++) {
            x.claim(team, 8, -1, 1);
        }
        x.endWeek();
        for (int team = 0; team < 8; team++) {
            CHECK.due("32 ranks by scores", x.rank(team), 8 - team);
            CHECK.due("33 ranks by scores", x.ranked(8 - team), team);
        }
        CHECK.due("18 the worst of eight", x.ownerOf(8), 0);
        CHECK.due("41 mean of eight", x.meanScore(), 4.0 * 28 / 8);
        CHECK.refused("33 no ninth", Leagues.INDEX, LimitsTest::eight, y -> y.ranked(9));
        CHECK.refused("2 no ninth", Leagues.STATE, () -> Leagues.plain(8, 1, 0), y -> y.addTeam(1));
    }

    /** Six of eight have no part in a trade: three are half of them, four are more. */
    private static void eightTeamsTrade() {
        for (int votes = 0; votes <= 6; votes++) {
            DraftLeague x = eight();
            x.accept(x.offer(0, 0, 7, 0));
            for (int judge = 1; judge <= votes; judge++) {
                CHECK.due("21 votes", x.veto(0, judge), judge);
            }
            x.endWeek();
            CHECK.due("22 with the votes " + votes, x.offerState(0), votes >= 4 ? 'v' : 'd');
        }
    }

    private static void eightTeamsMeet() {
        DraftLeague x = eight();
        for (int team = 0; team < 8; team += 2) {
            CHECK.due("23 four matches", x.meet(0, team, team + 1), true);
        }
        for (int team = 0; team < 8; team++) {
            CHECK.due("23 each has one", x.meet(0, team, (team + 3) % 8), false);
        }
        x.did(0, 7, 1, 1);
        x.endWeek();
        CHECK.due("31 the last team won", x.result(0, 7), 2);
        CHECK.due("31 its other lost", x.result(0, 6), 0);
        CHECK.due("31 a draw", x.result(0, 0), 1);
        CHECK.due("33 the first", x.ranked(1), 7);
        CHECK.due("33 the last", x.ranked(8), 6);
    }

    // ---- players

    private static void noPlayer() {
        DraftLeague x = Leagues.plain(2, 50, 0);
        CHECK.due("39 none", x.players(), 0);
        CHECK.due("12 a turn without players", x.turnOf(), 0);
        CHECK.due("17 size", x.size(1), 0);
        CHECK.due("29 score", x.score(0, 1), 0);
        CHECK.due("13 none is free", x.endDraft(), 0);
        x.meet(0, 0, 1);
        x.endWeek();
        CHECK.due("31 a draw of nothing", x.result(0, 0), 1);
        CHECK.due("41 mean of nothing", x.meanScore(), 0.0);
        CHECK.due("42 sound", x.isSound(), true);
        CHECK.refused("40 none of none", Leagues.ARITHMETIC, () -> Leagues.plain(2, 50, 0), y -> y.freeShare());
        CHECK.refused("14 none", Leagues.INDEX, () -> Leagues.plain(2, 50, 0), y -> y.ownerOf(0));
        CHECK.refused("24 none", Leagues.INDEX, () -> Leagues.plain(2, 50, 0), y -> y.did(0, 0, 0, 1));
    }

    private static void onePlayer() {
        DraftLeague x = Leagues.plain(2, 50, 1);
        CHECK.due("39 one", x.players(), 1);
        CHECK.due("40 free", x.freeShare(), 1f);
        x.nominate(0, 0, 2);
        CHECK.due("40 up is free", x.freeShare(), 1f);
        x.knock();
        CHECK.due("40 not free", x.freeShare(), 0f);
        CHECK.due("12 a turn with none to nominate", x.turnOf(), 1);
        CHECK.due("13 none is free", x.endDraft(), 0);
    }

    private static void sixtyPlayers() {
        DraftLeague x = Leagues.plain(8, 500, 60);
        x.setBench(6);
        for (int player = 0; player < 60; player++) {
            CHECK.due("12 the turn of each, again and again", x.turnOf(), player % 8);
            x.nominate(player % 8, player, 2);
            x.knock();
        }
        CHECK.due("17 eight for the first", x.size(0), 8);
        CHECK.due("17 seven for the last", x.size(7), 7);
        CHECK.due("14 the last player", x.ownerOf(59), 3);
        CHECK.due("40 none is free", x.freeShare(), 0f);
        CHECK.due("38 all paid", x.pot(), 120);
        CHECK.due("42 sound", x.isSound(), true);
        CHECK.due("13 none is free", x.endDraft(), 0);
        x.did(0, 59, 0, 99);
        CHECK.due("29 the last player counts", x.score(0, 3), 396);
        CHECK.refused("3 no player 60", Leagues.STATE, () -> Leagues.plain(1, 1, 60), y -> y.addPlayer(1, 1));
    }

    // ---- claims

    private static void noClaim() {
        DraftLeague x = Leagues.drafted();
        x.endWeek();
        CHECK.due("18 none claimed", x.ownerOf(5), -1);
        CHECK.due("18 none paid", x.pot(), 35);
    }

    private static void oneClaim() {
        DraftLeague x = Leagues.drafted();
        CHECK.due("18 the first", x.claim(1, 5, -1, 4), 1);
        CHECK.due("18 not yet", x.ownerOf(5), -1);
        x.endWeek();
        CHECK.due("18 claimed", x.ownerOf(5), 1);
        CHECK.due("38 paid", x.pot(), 39);
        CHECK.due("16 paid", x.money(1), 31);
    }

    /** The fortieth counts as well: it is the greatest. */
    private static void fortyClaims() {
        DraftLeague x = Leagues.drafted();
        for (int claim = 1; claim < 40; claim++) {
            CHECK.due("18 claims", x.claim(0, 5, -1, 1), claim);
        }
        CHECK.due("18 the fortieth", x.claim(2, 5, -1, 2), 40);
        x.endWeek();
        CHECK.due("18 the fortieth is done", x.ownerOf(5), 2);
        CHECK.due("18 no other is", x.money(0), 37);
        CHECK.refused("18 no forty-first", Leagues.STATE, () -> {
            DraftLeague y = Leagues.drafted();
            for (int claim = 0; claim < 40; claim++) {
                y.claim(0, 5, -1, 1);
            }
            return y;
        }, y -> y.claim(0, 5, -1, 1));
    }

    /** The claims of a week are gone with it: each week has its own forty. */
    private static void fortyClaimsEachWeek() {
        DraftLeague x = Leagues.plain(2, 500, 4);
        x.nominate(0, 0, 2);
        x.knock();
        x.nominate(1, 1, 2);
        x.knock();
        x.endDraft();
        for (int week = 0; week < 9; week++) {
            int team = week % 2;
            int own = x.ownerOf(0) == team ? 0 : x.ownerOf(1) == team ? 1 : x.ownerOf(2) == team ? 2 : 3;
            int free = x.ownerOf(2) == -1 ? 2 : x.ownerOf(3) == -1 ? 3 : x.ownerOf(0) == -1 ? 0 : 1;
            for (int claim = 1; claim <= 40; claim++) {
                CHECK.due("18 claims of a later week", x.claim(team, free, own, claim % 7), claim);
            }
            x.endWeek();
            CHECK.due("18 claimed in a later week", x.ownerOf(free), team);
            CHECK.due("18 for the greatest amount", x.paidFor(free), 6);
            CHECK.due("18 gone in a later week", x.ownerOf(own), -1);
        }
        CHECK.due("38 the pot of nine weeks", x.pot(), 4 + 9 * 6);
        CHECK.due("42 sound", x.isSound(), true);
    }

    // ---- offers

    private static void noOffer() {
        DraftLeague x = Leagues.drafted();
        x.endWeek();
        CHECK.due("36 none", x.suspects(), 0);
        CHECK.refused("20 none", Leagues.INDEX, Leagues::drafted, y -> y.accept(0));
        CHECK.refused("21 none", Leagues.INDEX, Leagues::drafted, y -> y.veto(0, 2));
        CHECK.refused("22 none", Leagues.INDEX, Leagues::drafted, y -> y.offerState(0));
        CHECK.refused("37 none", Leagues.INDEX, Leagues::drafted, y -> y.tradeValue(0));
    }

    private static void oneOffer() {
        DraftLeague x = Leagues.drafted();
        CHECK.due("19 the first is 0", x.offer(0, 0, 1, 0), 0);
        CHECK.due("22 open", x.offerState(0), 'o');
        CHECK.due("37 of nothing", x.tradeValue(0), 0);
        CHECK.refused("22 no second", Leagues.INDEX, Leagues::offered, y -> y.offerState(1));
    }

    /** Two trades in each of fifteen weeks: 0 and 1 change teams for money, 2 and 3 for none. */
    private static DraftLeague thirtyTrades() {
        DraftLeague x = Leagues.drafted();
        for (int week = 0; week < 15; week++) {
            int first = x.offer(x.ownerOf(0), 0, 1, 11);
            int second = x.offer(x.ownerOf(3), 3, 2, 0);
            CHECK.due("19 numbers", first, 2 * week);
            CHECK.due("19 numbers", second, 2 * week + 1);
            x.accept(first);
            x.accept(second);
            x.endWeek();
        }
        return x;
    }

    private static void thirtyOffers() {
        DraftLeague x = thirtyTrades();
        for (int offer = 0; offer < 30; offer++) {
            CHECK.due("22 all are done", x.offerState(offer), 'd');
        }
        CHECK.due("36 half of them for money", x.suspects(), 15);
        CHECK.due("14 changed teams fifteen times", x.ownerOf(0), 1);
        CHECK.due("42 sound", x.isSound(), true);
        CHECK.refused("19 no thirty-first, though all are over", Leagues.STATE, LimitsTest::thirtyTrades,
                y -> y.offer(1, 0, 1, 0));
        CHECK.refused("22 no thirty-first", Leagues.INDEX, LimitsTest::thirtyTrades, y -> y.offerState(30));
        DraftLeague open = Leagues.drafted();
        for (int offer = 0; offer < 30; offer++) {
            CHECK.due("19 open ones", open.offer(0, 0, 1, 0), offer);
        }
        CHECK.due("20 the thirtieth", open.accept(29), true);
        open.endWeek();
        CHECK.due("22 the thirtieth", open.offerState(29), 'd');
        CHECK.due("22 the first", open.offerState(0), 'o');
    }

    // ---- weeks

    private static void noWeek() {
        DraftLeague x = Leagues.drafted();
        CHECK.due("26 the first is 0", x.week(), 0);
        CHECK.due("35 no sum", x.sumOf(0), 0);
        CHECK.due("34 no matches", x.wins(0), 0);
        CHECK.due("32 by numbers", x.rank(2), 3);
        CHECK.refused("27 none to be final", Leagues.ARGUMENT, Leagues::drafted, y -> y.setFinal(0));
        CHECK.refused("31 no results", Leagues.ARGUMENT, Leagues::drafted, y -> y.result(0, 0));
        CHECK.refused("41 no mean", Leagues.ARITHMETIC, Leagues::drafted, y -> y.meanScore());
    }

    private static void oneWeek() {
        DraftLeague x = Leagues.played();
        CHECK.due("26 the second is 1", x.week(), 1);
        CHECK.due("35 sum of one", x.sumOf(0), 20);
        CHECK.due("34 one match", x.wins(0), 2);
        CHECK.due("41 mean of one", x.meanScore(), 40.0 / 3);
    }

    private static void twentyWeeks() {
        DraftLeague x = Leagues.drafted();
        for (int week = 0; week < 20; week++) {
            CHECK.due("26 weeks", x.week(), week);
            CHECK.due("23 meet in each", x.meet(week, 0, 1), true);
            x.did(week, 0, 1, week);
            CHECK.due("25 the next", x.endWeek(), week + 1);
            CHECK.due("35 sums", x.sumOf(0), week * (week + 1) / 2);
            CHECK.due("34 the first is a draw", x.wins(0), 2 * week + 1);
        }
        CHECK.due("41 mean of twenty", x.meanScore(), 190.0 / 60);
        CHECK.due("31 the last", x.result(19, 0), 2);
        CHECK.due("31 the first", x.result(0, 1), 1);
        CHECK.due("24 corrected behind all", x.did(19, 1, 1, 19), 19);
        CHECK.due("31 the last corrected", x.result(19, 0), 1);
        CHECK.due("27 all final", x.setFinal(19), true);
        CHECK.refused("25 no twenty-first", Leagues.STATE, () -> Leagues.weeksOver(20), y -> y.endWeek());
        CHECK.refused("24 all final", Leagues.UNSUPPORTED, LimitsTest::allFinal, y -> y.did(19, 0, 0, 1));
        CHECK.refused("24 the first is final", Leagues.UNSUPPORTED, LimitsTest::allFinal, y -> y.did(0, 0, 0, 1));
    }

    private static DraftLeague allFinal() {
        DraftLeague x = Leagues.weeksOver(20);
        x.setFinal(19);
        return x;
    }

    /** In the last week there are still claims, trades and matches; behind it no claims, and trades wait for ever. */
    private static void lastWeek() {
        DraftLeague x = Leagues.weeksOver(19);
        CHECK.due("18 a claim", x.claim(2, 5, -1, 3), 1);
        CHECK.due("23 a match", x.meet(19, 0, 2), true);
        x.accept(x.offer(0, 0, 1, 0));
        CHECK.due("25 ends", x.endWeek(), 20);
        CHECK.due("18 claimed", x.ownerOf(5), 2);
        CHECK.due("22 traded", x.offerState(0), 'd');
        CHECK.due("31 a draw", x.result(19, 0), 1);
        CHECK.due("30 the roster of the last week", x.fills(19, 0, 0), 0);
        CHECK.due("19 an offer behind it", x.offer(1, 0, 1, 0), 1);
        CHECK.due("20 waits", x.accept(1), true);
        CHECK.due("21 a vote", x.veto(1, 2), 1);
        CHECK.due("22 for ever", x.offerState(1), 'w');
        CHECK.refused("18 no claim", Leagues.STATE, () -> Leagues.weeksOver(20), y -> y.claim(0, 5, -1, 1));
        CHECK.refused("23 no match", Leagues.ARGUMENT, () -> Leagues.weeksOver(20), y -> y.meet(19, 0, 1));
    }

    // ---- places and the bench

    private static void noPlaces() {
        DraftLeague x = Leagues.sold();
        for (int position = 0; position < 4; position++) {
            x.setPlaces(position, 0);
        }
        CHECK.due("12 room on the bench", x.turnOf(), 2);
        x.endDraft();
        x.did(0, 0, 0, 9);
        CHECK.due("29 no places, no score", x.score(0, 0), 0);
        CHECK.due("30 all on the bench", x.fills(0, 0, 0), -1);
        CHECK.refused("12 neither places nor bench", Leagues.ELEMENT, () -> {
            DraftLeague y = Leagues.ready();
            Leagues.onePlace(y);
            y.setPlaces(0, 0);
            return y;
        }, y -> y.turnOf());
    }

    private static void onePlace() {
        DraftLeague x = Leagues.drafted();
        Leagues.onePlace(x);
        x.did(0, 0, 0, 2);
        x.did(0, 3, 0, 3);
        CHECK.due("29 the better one", x.score(0, 0), 12);
        CHECK.due("30 fills it", x.fills(0, 0, 3), 0);
        CHECK.due("30 is left over, bench or not", x.fills(0, 0, 0), -1);
    }

    private static void allPlaces() {
        DraftLeague x = squad(18);
        CHECK.due("17 as many as places and bench", x.size(0), 18);
        for (int player = 0; player < 18; player++) {
            CHECK.due("30 three for each, then the bench", x.fills(0, 0, player), player < 12 ? player / 3 : -1);
        }
        CHECK.refused("12 no room for a nineteenth", Leagues.ELEMENT, () -> squad(18), y -> y.turnOf());
        CHECK.due("12 room for an eighteenth", squad(17).turnOf(), 0);
    }

    /** One team with three places for each position, six on the bench, and so many players. */
    private static DraftLeague squad(int players) {
        DraftLeague x = Leagues.plain(1, 500, 20);
        x.setBench(6);
        for (int position = 0; position < 4; position++) {
            x.setPlaces(position, 3);
        }
        for (int player = 0; player < players; player++) {
            x.nominate(0, player, 2);
            x.knock();
        }
        return x;
    }

    private static void noBench() {
        CHECK.due("6 three without a bench", benched(0, 3).turnOf(), 0);
        CHECK.refused("6 four without a bench", Leagues.ELEMENT, () -> benched(0, 4), x -> x.turnOf());
    }

    private static void fullBench() {
        CHECK.due("6 six at first", benched(3, 6).turnOf(), 0);
        CHECK.refused("6 seven at first", Leagues.ELEMENT, () -> benched(3, 7), x -> x.turnOf());
        CHECK.due("6 nine with the longest bench", benched(6, 9).turnOf(), 0);
        CHECK.refused("6 ten with the longest bench", Leagues.ELEMENT, () -> benched(6, 10), x -> x.turnOf());
    }

    /** One team with one place for each position, the bench, and so many players. */
    private static DraftLeague benched(int bench, int players) {
        DraftLeague x = Leagues.plain(1, 500, 20);
        x.setBench(bench);
        for (int player = 0; player < players; player++) {
            x.nominate(0, player, 2);
            x.knock();
        }
        return x;
    }

    // ---- money

    private static void noMoney() {
        DraftLeague x = new DraftLeague();
        x.addTeam(0);
        x.addTeam(1);
        x.addPlayer(15, 1);
        x.addPlayer(15, 1);
        CHECK.due("12 a turn without money", x.turnOf(), 0);
        x.endDraft();
        CHECK.due("18 a claim for nothing", x.claim(0, 0, -1, 0), 1);
        CHECK.due("18 a claim for all", x.claim(1, 1, -1, 1), 2);
        x.endWeek();
        CHECK.due("15 paid nothing", x.paidFor(0), 0);
        CHECK.due("15 paid all", x.paidFor(1), 1);
        CHECK.due("19 a trade for nothing", x.offer(0, 0, 1, 0), 0);
        CHECK.due("16 none left", x.money(1), 0);
        CHECK.due("42 sound", x.isSound(), true);
        CHECK.refused("8 the least price is too much", Leagues.ARGUMENT, () -> {
            DraftLeague y = new DraftLeague();
            y.addTeam(0);
            y.addPlayer(15, 1);
            return y;
        }, y -> y.nominate(0, 0, 1));
    }
}
