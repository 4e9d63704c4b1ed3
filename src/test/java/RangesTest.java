import java.util.function.Supplier;

/**
 * Each argument of each call: the last value that is allowed and the first that is not, at both ends of its range,
 * and the least and the greatest int.
 */
public final class RangesTest {
    private static final int LEAST = Integer.MIN_VALUE;
    private static final int GREATEST = Integer.MAX_VALUE;
    private static final Check CHECK = new Check();

    private interface Call {
        void on(DraftLeague league, int number);
    }

    public static void main(String[] args) {
        addTeam();
        addPlayer();
        setPositions();
        setPlaces();
        setBench();
        setRule();
        nominate();
        nominateByPrice();
        bid();
        bidsWithWhatIsLeft();
        proxy();
        looksAtPlayers();
        looksAtTeams();
        claim();
        claimOut();
        offer();
        offerAmount();
        looksAtOffers();
        veto();
        meet();
        did();
        setFinal();
        points();
        score();
        fills();
        result();
        ranked();
        CHECK.finish();
    }

    private static void range(String what, Class<? extends RuntimeException> kind, Supplier<DraftLeague> setting,
            int least, int most, Call call) {
        CHECK.allowed(what + " at least, " + least, setting, x -> call.on(x, least));
        CHECK.allowed(what + " at most, " + most, setting, x -> call.on(x, most));
        outside(what, kind, setting, least, most, call);
    }

    private static void outside(String what, Class<? extends RuntimeException> kind, Supplier<DraftLeague> setting,
            int least, int most, Call call) {
        below(what, kind, setting, least, call);
        CHECK.refused(what + " " + (most + 1), kind, setting, x -> call.on(x, most + 1));
        CHECK.refused(what + ", the greatest int", kind, setting, x -> call.on(x, GREATEST));
    }

    private static void below(String what, Class<? extends RuntimeException> kind, Supplier<DraftLeague> setting,
            int least, Call call) {
        CHECK.refused(what + " " + (least - 1), kind, setting, x -> call.on(x, least - 1));
        CHECK.refused(what + ", the least int", kind, setting, x -> call.on(x, LEAST));
    }

    /** Team 0 has player 0, team 1 has 3, and team 2 has 6, the last one; the draft is over. */
    private static DraftLeague ends() {
        DraftLeague x = Leagues.ready();
        for (int team = 0; team < 3; team++) {
            x.nominate(team, 3 * team, 5);
            x.knock();
        }
        x.endDraft();
        return x;
    }

    /** Each team has one of the players 2 to 4: the first and the last player are free; the draft is over. */
    private static DraftLeague middle() {
        DraftLeague x = Leagues.ready();
        for (int team = 0; team < 3; team++) {
            x.nominate(team, team + 2, 5);
            x.knock();
        }
        x.endDraft();
        return x;
    }

    /** Player 0 is up, and team 1 leads with 6. */
    private static DraftLeague middleTeamLeads() {
        DraftLeague x = Leagues.running();
        x.bid(1, 6);
        return x;
    }

    /** Three weeks are over, in which the teams 0 and 2 met. */
    private static DraftLeague threeWeeks() {
        DraftLeague x = ends();
        for (int week = 0; week < 3; week++) {
            x.meet(week, 0, 2);
            x.endWeek();
        }
        return x;
    }

    /** Four teams with a player each, and two trades, between 0 and 3 and between 1 and 2, that wait. */
    private static DraftLeague twoTradesWait() {
        DraftLeague x = Leagues.plain(4, 50, 4);
        for (int team = 0; team < 4; team++) {
            x.nominate(team, team, 5);
            x.knock();
        }
        x.endDraft();
        x.accept(x.offer(0, 0, 3, 0));
        x.accept(x.offer(1, 1, 2, 0));
        return x;
    }

    private static DraftLeague twoOffers() {
        DraftLeague x = ends();
        x.offer(0, 0, 6, 0);
        x.offer(0, 0, 6, 1);
        return x;
    }

    private static void addTeam() {
        range("2 addTeam money", Leagues.ARGUMENT, Leagues::ready, 0, 500, (x, n) -> x.addTeam(n));
        CHECK.due("2 the least money is had", rich(0), 0);
        CHECK.due("2 the most money is had", rich(500), 500);
    }

    private static int rich(int money) {
        DraftLeague x = new DraftLeague();
        return x.money(x.addTeam(money));
    }

    private static void addPlayer() {
        range("3 addPlayer positions", Leagues.ARGUMENT, Leagues::ready, 1, 15, (x, n) -> x.addPlayer(n, 9));
        range("3 addPlayer price", Leagues.ARGUMENT, Leagues::ready, 1, 99, (x, n) -> x.addPlayer(9, n));
        for (int sum = 1; sum <= 15; sum++) {
            DraftLeague x = new DraftLeague();
            CHECK.due("3 each sum of positions is had", x.setPositions(x.addPlayer(sum, 1), 1), sum);
        }
        for (int price : new int[] {1, 99}) {
            Supplier<DraftLeague> priced = () -> {
                DraftLeague x = Leagues.plain(1, 100, 0);
                x.addPlayer(1, price);
                return x;
            };
            CHECK.allowed("3 the price " + price, priced, x -> x.nominate(0, 0, price));
            CHECK.refused("3 less than the price " + price, Leagues.ARGUMENT, priced,
                    x -> x.nominate(0, 0, price - 1));
        }
    }

    private static void setPositions() {
        range("4 setPositions player", Leagues.INDEX, Leagues::ready, 0, 6, (x, n) -> x.setPositions(n, 1));
        range("4 setPositions positions", Leagues.ARGUMENT, Leagues::ready, 1, 15, (x, n) -> x.setPositions(0, n));
        DraftLeague x = Leagues.ready();
        for (int sum = 1; sum <= 15; sum++) {
            x.setPositions(6, sum);
            CHECK.due("4 each sum is set", x.setPositions(6, 1), sum);
        }
    }

    private static void setPlaces() {
        range("5 setPlaces position", Leagues.ARGUMENT, Leagues::ready, 0, 3, (x, n) -> x.setPlaces(n, 1));
        range("5 setPlaces places", Leagues.ARGUMENT, Leagues::ready, 0, 3, (x, n) -> x.setPlaces(0, n));
        DraftLeague x = Leagues.ready();
        for (int position = 0; position < 4; position++) {
            for (int places = 0; places <= 3; places++) {
                x.setPlaces(position, places);
                CHECK.due("5 each number of places is set", x.setPlaces(position, 1), places);
            }
        }
    }

    private static void setBench() {
        range("6 setBench places", Leagues.ARGUMENT, Leagues::ready, 0, 6, (x, n) -> x.setBench(n));
        DraftLeague x = Leagues.ready();
        for (int places = 0; places <= 6; places++) {
            x.setBench(places);
            CHECK.due("6 each number of places is set", x.setBench(3), places);
        }
    }

    private static void setRule() {
        range("7 setRule kind", Leagues.ARGUMENT, Leagues::ready, 0, 3, (x, n) -> x.setRule(n, 1));
        range("7 setRule points", Leagues.ARGUMENT, Leagues::ready, -9, 9, (x, n) -> x.setRule(0, n));
        DraftLeague x = Leagues.ready();
        for (int kind = 0; kind < 4; kind++) {
            for (int points = -9; points <= 9; points++) {
                x.setRule(kind, points);
                CHECK.due("7 each number of points is set", x.setRule(kind, 0), points);
            }
        }
    }

    /** Each player has a price of his own, from 3 on: 3, 4, 5 and so on. */
    private static DraftLeague priced() {
        DraftLeague x = Leagues.plain(2, 50, 0);
        for (int player = 0; player < 5; player++) {
            x.addPlayer(15, 3 + player);
        }
        return x;
    }

    private static void nominateByPrice() {
        for (int player = 0; player < 5; player++) {
            int number = player;
            CHECK.allowed("8 the price of " + player, RangesTest::priced, x -> x.nominate(0, number, 3 + number));
            CHECK.refused("8 less than the price of " + player, Leagues.ARGUMENT, RangesTest::priced,
                    x -> x.nominate(0, number, 2 + number));
        }
    }

    /** Team 0 has 37 of its 50 left, team 1 has 35, and team 2 has 43. */
    private static void bidsWithWhatIsLeft() {
        CHECK.allowed("8 all that is left", Leagues::sold, x -> x.nominate(2, 5, 43));
        CHECK.refused("8 more than is left", Leagues.ARGUMENT, Leagues::sold, x -> x.nominate(2, 5, 44));
        CHECK.allowed("9 all that is left", RangesTest::soldAndUp, x -> x.bid(0, 37));
        CHECK.refused("9 more than is left", Leagues.ARGUMENT, RangesTest::soldAndUp, x -> x.bid(0, 38));
        CHECK.allowed("9 all that the other has left", RangesTest::soldAndUp, x -> x.bid(1, 35));
        CHECK.refused("9 more than the other has left", Leagues.ARGUMENT, RangesTest::soldAndUp, x -> x.bid(1, 36));
    }

    private static DraftLeague soldAndUp() {
        DraftLeague x = Leagues.sold();
        x.nominate(2, 5, 2);
        return x;
    }

    private static void nominate() {
        CHECK.allowed("8 nominate team 0", Leagues::ready, x -> x.nominate(0, 5, 9));
        CHECK.allowed("8 nominate team 2", Leagues::sold, x -> x.nominate(2, 5, 9));
        outside("8 nominate team", Leagues.INDEX, Leagues::ready, 0, 2, (x, n) -> x.nominate(n, 5, 9));
        range("8 nominate player", Leagues.INDEX, Leagues::ready, 0, 6, (x, n) -> x.nominate(0, n, 9));
        range("8 nominate bid", Leagues.ARGUMENT, Leagues::ready, 2, 50, (x, n) -> x.nominate(0, 0, n));
    }

    private static void bid() {
        range("9 bid team", Leagues.INDEX, RangesTest::middleTeamLeads, 0, 2, (x, n) -> x.bid(n, 9));
        range("9 bid amount", Leagues.ARGUMENT, Leagues::running, 6, 50, (x, n) -> x.bid(1, n));
        DraftLeague most = Leagues.running();
        most.bid(1, 49);
        CHECK.due("9 all its money, 1 more than leads", most.bid(2, 50), true);
        CHECK.refused("9 no more than 50 with 50", Leagues.ARGUMENT, RangesTest::leadsWithAll, x -> x.bid(0, 50));
        CHECK.refused("9 51 with 50", Leagues.ARGUMENT, RangesTest::leadsWithAll, x -> x.bid(0, 51));
    }

    private static DraftLeague leadsWithAll() {
        DraftLeague x = Leagues.running();
        x.bid(1, 50);
        return x;
    }

    private static void proxy() {
        range("10 proxy team", Leagues.INDEX, Leagues::running, 0, 2, (x, n) -> x.proxy(n, 0, 9));
        range("10 proxy player", Leagues.INDEX, Leagues::running, 0, 6, (x, n) -> x.proxy(1, n, 9));
        CHECK.allowed("10 proxy most at least, 0", Leagues::running, x -> x.proxy(1, 0, 0));
        CHECK.allowed("10 proxy most at most", Leagues::running, x -> x.proxy(1, 0, GREATEST));
        below("10 proxy most", Leagues.ARGUMENT, Leagues::running, 0, (x, n) -> x.proxy(1, 0, n));
        DraftLeague x = Leagues.running();
        x.proxy(1, 0, GREATEST);
        CHECK.due("10 the greatest most bids 1 more", x.knock(), 1);
        CHECK.due("10 the greatest most pays 1 more", x.paidFor(0), 6);
        CHECK.due("10 the greatest most before", x.proxy(1, 0, 0), GREATEST);
    }

    private static void looksAtPlayers() {
        range("14 ownerOf player", Leagues.INDEX, RangesTest::ends, 0, 6, (x, n) -> x.ownerOf(n));
        range("15 paidFor player", Leagues.INDEX, RangesTest::ends, 0, 6, (x, n) -> x.paidFor(n));
    }

    private static void looksAtTeams() {
        range("16 money team", Leagues.INDEX, Leagues::ready, 0, 2, (x, n) -> x.money(n));
        range("17 size team", Leagues.INDEX, Leagues::ready, 0, 2, (x, n) -> x.size(n));
        range("32 rank team", Leagues.INDEX, Leagues::ready, 0, 2, (x, n) -> x.rank(n));
        range("34 wins team", Leagues.INDEX, Leagues::played, 0, 2, (x, n) -> x.wins(n));
        range("35 sumOf team", Leagues.INDEX, Leagues::played, 0, 2, (x, n) -> x.sumOf(n));
    }

    private static void claim() {
        range("18 claim team", Leagues.INDEX, RangesTest::middle, 0, 2, (x, n) -> x.claim(n, 0, -1, 9));
        range("18 claim player", Leagues.INDEX, RangesTest::middle, 0, 6, (x, n) -> x.claim(0, n, -1, 9));
        range("18 claim amount", Leagues.ARGUMENT, RangesTest::middle, 0, 45, (x, n) -> x.claim(0, 0, -1, n));
        for (int amount : new int[] {0, 45}) {
            DraftLeague x = middle();
            x.claim(0, 6, -1, amount);
            x.endWeek();
            CHECK.due("18 claimed for " + amount, x.paidFor(6), amount);
        }
    }

    private static void claimOut() {
        CHECK.allowed("18 claim out -1", RangesTest::ends, x -> x.claim(0, 1, -1, 9));
        CHECK.allowed("18 claim out 0", RangesTest::ends, x -> x.claim(0, 1, 0, 9));
        CHECK.allowed("18 claim out 6", RangesTest::ends, x -> x.claim(2, 1, 6, 9));
        outside("18 claim out", Leagues.INDEX, RangesTest::ends, -1, 6, (x, n) -> x.claim(0, 1, n, 9));
    }

    private static void offer() {
        CHECK.allowed("19 offer the first for the last", RangesTest::ends, x -> x.offer(0, 0, 6, 0));
        CHECK.allowed("19 offer the last for the first", RangesTest::ends, x -> x.offer(2, 6, 0, 0));
        outside("19 offer team", Leagues.INDEX, RangesTest::ends, 0, 2, (x, n) -> x.offer(n, 0, 6, 0));
        outside("19 offer player", Leagues.INDEX, RangesTest::ends, 0, 6, (x, n) -> x.offer(0, n, 6, 0));
        outside("19 offer other", Leagues.INDEX, RangesTest::ends, 0, 6, (x, n) -> x.offer(0, 0, n, 0));
    }

    /** Team 0 has 37, and team 1 has 35. */
    private static void offerAmount() {
        range("19 offer amount", Leagues.ARGUMENT, Leagues::drafted, -35, 37, (x, n) -> x.offer(0, 0, 1, n));
        for (int amount : new int[] {-35, 37}) {
            DraftLeague x = Leagues.drafted();
            x.accept(x.offer(0, 0, 1, amount));
            x.endWeek();
            CHECK.due("19 paid all, " + amount, x.money(0), 37 - amount);
            CHECK.due("19 got all, " + amount, x.money(1), 35 + amount);
        }
    }

    private static void looksAtOffers() {
        range("20 accept offer", Leagues.INDEX, RangesTest::twoOffers, 0, 1, (x, n) -> x.accept(n));
        range("22 offerState offer", Leagues.INDEX, RangesTest::twoOffers, 0, 1, (x, n) -> x.offerState(n));
        range("37 tradeValue offer", Leagues.INDEX, RangesTest::twoOffers, 0, 1, (x, n) -> x.tradeValue(n));
    }

    private static void veto() {
        CHECK.allowed("21 veto offer 0, team 1", RangesTest::twoTradesWait, x -> x.veto(0, 1));
        CHECK.allowed("21 veto offer 1, team 0", RangesTest::twoTradesWait, x -> x.veto(1, 0));
        CHECK.allowed("21 veto offer 1, team 3", RangesTest::twoTradesWait, x -> x.veto(1, 3));
        outside("21 veto offer", Leagues.INDEX, RangesTest::twoTradesWait, 0, 1, (x, n) -> x.veto(n, 1));
        outside("21 veto team", Leagues.INDEX, RangesTest::twoTradesWait, 0, 3, (x, n) -> x.veto(1, n));
    }

    private static void meet() {
        range("23 meet week", Leagues.ARGUMENT, Leagues::drafted, 0, 19, (x, n) -> x.meet(n, 0, 1));
        range("23 meet week, three over", Leagues.ARGUMENT, RangesTest::threeWeeks, 3, 19, (x, n) -> x.meet(n, 0, 1));
        range("23 meet week, 19 over", Leagues.ARGUMENT, () -> Leagues.weeksOver(19), 19, 19,
                (x, n) -> x.meet(n, 0, 1));
        CHECK.allowed("23 meet one 0, other 2", Leagues::drafted, x -> x.meet(0, 0, 2));
        CHECK.allowed("23 meet one 2, other 0", Leagues::drafted, x -> x.meet(0, 2, 0));
        outside("23 meet one", Leagues.INDEX, Leagues::drafted, 0, 2, (x, n) -> x.meet(0, n, 1));
        outside("23 meet other", Leagues.INDEX, Leagues::drafted, 0, 2, (x, n) -> x.meet(0, 1, n));
    }

    private static void did() {
        range("24 did week", Leagues.ARGUMENT, Leagues::played, 0, 19, (x, n) -> x.did(n, 0, 0, 1));
        range("24 did player", Leagues.INDEX, Leagues::played, 0, 6, (x, n) -> x.did(0, n, 0, 1));
        range("24 did kind", Leagues.ARGUMENT, Leagues::played, 0, 3, (x, n) -> x.did(0, 0, n, 1));
        range("24 did count", Leagues.ARGUMENT, Leagues::played, 0, 99, (x, n) -> x.did(0, 0, 0, n));
        DraftLeague most = Leagues.drafted();
        for (int kind = 0; kind < 4; kind++) {
            most.setRule(kind, 9);
            CHECK.due("24 99 of each kind up to " + kind, most.did(19, 6, kind, 99), 99 * 9 * (kind + 1));
        }
        for (int kind = 0; kind < 4; kind++) {
            most.setRule(kind, -9);
        }
        CHECK.due("24 the least points that there are", most.points(19, 6), -99 * 9 * 4);
    }

    private static void setFinal() {
        CHECK.refused("27 setFinal 0, none over", Leagues.ARGUMENT, Leagues::drafted, x -> x.setFinal(0));
        range("27 setFinal, one over", Leagues.ARGUMENT, Leagues::played, 0, 0, (x, n) -> x.setFinal(n));
        range("27 setFinal, three over", Leagues.ARGUMENT, RangesTest::threeWeeks, 0, 2, (x, n) -> x.setFinal(n));
        range("27 setFinal, all over", Leagues.ARGUMENT, () -> Leagues.weeksOver(20), 0, 19,
                (x, n) -> x.setFinal(n));
    }

    private static void points() {
        range("28 points week", Leagues.ARGUMENT, Leagues::played, 0, 19, (x, n) -> x.points(n, 0));
        range("28 points player", Leagues.INDEX, Leagues::played, 0, 6, (x, n) -> x.points(0, n));
    }

    private static void score() {
        range("29 score week", Leagues.ARGUMENT, Leagues::played, 0, 19, (x, n) -> x.score(n, 0));
        range("29 score week, all over", Leagues.ARGUMENT, () -> Leagues.weeksOver(20), 0, 19,
                (x, n) -> x.score(n, 0));
        range("29 score team", Leagues.INDEX, Leagues::played, 0, 2, (x, n) -> x.score(0, n));
    }

    private static void fills() {
        range("30 fills week", Leagues.ARGUMENT, Leagues::played, 0, 19, (x, n) -> x.fills(n, 0, 0));
        range("30 fills week, all over", Leagues.ARGUMENT, () -> Leagues.weeksOver(20), 0, 19,
                (x, n) -> x.fills(n, 0, 0));
        CHECK.allowed("30 fills team 0, player 0", RangesTest::ends, x -> x.fills(0, 0, 0));
        CHECK.allowed("30 fills team 2, player 6", RangesTest::ends, x -> x.fills(0, 2, 6));
        outside("30 fills team", Leagues.INDEX, RangesTest::ends, 0, 2, (x, n) -> x.fills(0, n, 0));
        outside("30 fills player", Leagues.INDEX, RangesTest::ends, 0, 6, (x, n) -> x.fills(0, 0, n));
    }

    private static void result() {
        range("31 result week", Leagues.ARGUMENT, RangesTest::threeWeeks, 0, 2, (x, n) -> x.result(n, 0));
        CHECK.allowed("31 result team 0", RangesTest::threeWeeks, x -> x.result(2, 0));
        CHECK.allowed("31 result team 2", RangesTest::threeWeeks, x -> x.result(2, 2));
        outside("31 result team", Leagues.INDEX, RangesTest::threeWeeks, 0, 2, (x, n) -> x.result(2, n));
        outside("31 result week, all over", Leagues.ARGUMENT, () -> Leagues.weeksOver(20), 0, 19,
                (x, n) -> x.result(n, 0));
        CHECK.refused("31 result week 0, none over", Leagues.ARGUMENT, Leagues::drafted, x -> x.result(0, 0));
    }

    private static void ranked() {
        range("33 ranked rank", Leagues.INDEX, Leagues::played, 1, 3, (x, n) -> x.ranked(n));
    }
}
