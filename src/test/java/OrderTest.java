import java.util.function.Supplier;

/** Each exception of each call by itself, and, of several that apply, the one that is documented first. */
public final class OrderTest {
    private static final Check CHECK = new Check();

    /** Neither a team nor a player nor an offer of the leagues here. */
    private static final int[] NO_SUCH = {-1, 9};

    public static void main(String[] args) {
        addTeam();
        addPlayer();
        setPositions();
        setPlacesAndRules();
        nominateWithoutSuch();
        nominateInWrongState();
        nominateWithWrongBid();
        nominateWhoIsNotFree();
        bidWithoutSuch();
        bidInWrongState();
        bidWithWrongAmount();
        bidOfWhoCannot();
        proxy();
        draftCalls();
        claimWithoutSuch();
        claimInWrongState();
        claimOfWrongPlayers();
        claimOfWrongAmount();
        offerWithoutSuch();
        offerOfWrongPlayers();
        offerInWrongState();
        offerOfWrongAmount();
        acceptAndVeto();
        meet();
        did();
        weeksOver();
        fills();
        result();
        figures();
        CHECK.finish();
    }

    // ---- leagues

    /** Each team has one place, and the teams 0 and 1 have a player; player 3 is up, team 2 leads with 5. */
    private static DraftLeague onlyTheLastHasRoom() {
        DraftLeague x = Leagues.ready();
        Leagues.onePlace(x);
        x.nominate(0, 0, 2);
        x.knock();
        x.nominate(1, 1, 2);
        x.knock();
        x.nominate(2, 3, 5);
        return x;
    }

    private static DraftLeague noRoom() {
        DraftLeague x = onlyTheLastHasRoom();
        x.knock();
        return x;
    }

    /** Player 0 is up, and team 1 leads with 50, all its money, though no team has room any more. */
    private static DraftLeague upWithoutRoom() {
        DraftLeague x = Leagues.running();
        x.bid(1, 50);
        Leagues.onePlace(x);
        x.setPlaces(0, 0);
        return x;
    }

    private static DraftLeague noRoomOver() {
        DraftLeague x = noRoom();
        x.endDraft();
        return x;
    }

    private static DraftLeague eightTeams() {
        return Leagues.plain(8, 50, 2);
    }

    private static DraftLeague sixtyPlayers() {
        return Leagues.plain(3, 50, 60);
    }

    private static DraftLeague allWeeksOver() {
        return Leagues.weeksOver(20);
    }

    private static DraftLeague fortyClaims() {
        DraftLeague x = Leagues.drafted();
        for (int claim = 0; claim < 40; claim++) {
            x.claim(0, 5, -1, 1);
        }
        return x;
    }

    private static DraftLeague thirtyOffers() {
        DraftLeague x = Leagues.drafted();
        for (int offer = 0; offer < 30; offer++) {
            x.offer(0, 0, 1, 0);
        }
        return x;
    }

    private static DraftLeague closed() {
        DraftLeague x = Leagues.played();
        x.setFinal(0);
        return x;
    }

    private static DraftLeague emptyAndOver() {
        DraftLeague x = new DraftLeague();
        x.endDraft();
        return x;
    }

    // ---- how a call is refused

    private static void index(String what, Supplier<DraftLeague> setting, Check.Deed deed) {
        CHECK.refused(what, Leagues.INDEX, setting, deed);
    }

    private static void argument(String what, Supplier<DraftLeague> setting, Check.Deed deed) {
        CHECK.refused(what, Leagues.ARGUMENT, setting, deed);
    }

    private static void state(String what, Supplier<DraftLeague> setting, Check.Deed deed) {
        CHECK.refused(what, Leagues.STATE, setting, deed);
    }

    private static void unsupported(String what, Supplier<DraftLeague> setting, Check.Deed deed) {
        CHECK.refused(what, Leagues.UNSUPPORTED, setting, deed);
    }

    private static void element(String what, Supplier<DraftLeague> setting, Check.Deed deed) {
        CHECK.refused(what, Leagues.ELEMENT, setting, deed);
    }

    // ---- teams and players

    private static void addTeam() {
        for (int money : new int[] {-1, 501}) {
            argument("2 money", Leagues::ready, x -> x.addTeam(money));
            argument("2 money, with 8", OrderTest::eightTeams, x -> x.addTeam(money));
            argument("2 money, begun", Leagues::running, x -> x.addTeam(money));
            argument("2 money, sold", Leagues::sold, x -> x.addTeam(money));
            argument("2 money, over", Leagues::drafted, x -> x.addTeam(money));
            argument("2 money, over without begin", OrderTest::emptyAndOver, x -> x.addTeam(money));
        }
        state("2 with 8", OrderTest::eightTeams, x -> x.addTeam(0));
        state("2 begun", Leagues::running, x -> x.addTeam(0));
        state("2 sold", Leagues::sold, x -> x.addTeam(0));
        state("2 over", Leagues::drafted, x -> x.addTeam(0));
        state("2 over without begin", OrderTest::emptyAndOver, x -> x.addTeam(0));
    }

    private static void addPlayer() {
        int[][] wrong = {{0, 1}, {16, 1}, {1, 0}, {1, 100}, {0, 0}, {16, 100}};
        for (int[] numbers : wrong) {
            argument("3 range", Leagues::ready, x -> x.addPlayer(numbers[0], numbers[1]));
            argument("3 range, with 60", OrderTest::sixtyPlayers, x -> x.addPlayer(numbers[0], numbers[1]));
        }
        state("3 with 60", OrderTest::sixtyPlayers, x -> x.addPlayer(1, 1));
    }

    private static void setPositions() {
        for (int player : NO_SUCH) {
            index("4 no player", Leagues::ready, x -> x.setPositions(player, 1));
            index("4 no player, sum 0", Leagues::ready, x -> x.setPositions(player, 0));
            index("4 no player, sum 16", Leagues::ready, x -> x.setPositions(player, 16));
        }
        argument("4 sum 0", Leagues::ready, x -> x.setPositions(0, 0));
        argument("4 sum 16", Leagues::ready, x -> x.setPositions(0, 16));
    }

    private static void setPlacesAndRules() {
        argument("5 both", Leagues::ready, x -> x.setPlaces(4, 4));
        argument("5 position", Leagues::ready, x -> x.setPlaces(4, 3));
        argument("5 places", Leagues::ready, x -> x.setPlaces(3, 4));
        argument("6 places", Leagues::ready, x -> x.setBench(7));
        argument("7 both", Leagues::ready, x -> x.setRule(4, 10));
        argument("7 kind", Leagues::ready, x -> x.setRule(4, 9));
        argument("7 points", Leagues::ready, x -> x.setRule(3, 10));
    }

    // ---- the draft

    private static void nominateWithoutSuch() {
        for (int none : NO_SUCH) {
            for (int bid : new int[] {1, 5, 51}) {
                index("8 no team, bid " + bid, Leagues::ready, x -> x.nominate(none, 0, bid));
                index("8 no player, bid " + bid, Leagues::ready, x -> x.nominate(0, none, bid));
                index("8 neither, bid " + bid, Leagues::ready, x -> x.nominate(none, none, bid));
                index("8 no team, over, bid " + bid, Leagues::drafted, x -> x.nominate(none, 5, bid));
                index("8 no player, over, bid " + bid, Leagues::drafted, x -> x.nominate(2, none, bid));
                index("8 no team, up, bid " + bid, Leagues::running, x -> x.nominate(none, 1, bid));
                index("8 no player, up, bid " + bid, Leagues::running, x -> x.nominate(0, none, bid));
                index("8 no player, not its turn, bid " + bid, Leagues::ready, x -> x.nominate(1, none, bid));
                index("8 no team, not free, bid " + bid, Leagues::sold, x -> x.nominate(none, 0, bid));
                index("8 no player, no room, bid " + bid, OrderTest::noRoom, x -> x.nominate(0, none, bid));
            }
        }
    }

    private static void nominateInWrongState() {
        for (int bid : new int[] {1, 5, 51}) {
            state("8 over, bid " + bid, Leagues::drafted, x -> x.nominate(2, 5, bid));
            state("8 over, not free, bid " + bid, Leagues::drafted, x -> x.nominate(2, 0, bid));
            state("8 over, no room, bid " + bid, OrderTest::noRoomOver, x -> x.nominate(0, 4, bid));
            state("8 another is up, bid " + bid, Leagues::running, x -> x.nominate(0, 1, bid));
            state("8 another is up, next turn, bid " + bid, Leagues::running, x -> x.nominate(1, 1, bid));
            state("8 it is up itself, bid " + bid, Leagues::running, x -> x.nominate(0, 0, bid));
            state("8 up, not free, bid " + bid, OrderTest::onlyTheLastHasRoom, x -> x.nominate(2, 0, bid));
            state("8 up, no room, bid " + bid, OrderTest::onlyTheLastHasRoom, x -> x.nominate(0, 4, bid));
            state("8 not its turn, bid " + bid, Leagues::ready, x -> x.nominate(1, 0, bid));
            state("8 not its turn, not free, bid " + bid, Leagues::sold, x -> x.nominate(0, 1, bid));
            state("8 no room, no turn, bid " + bid, OrderTest::noRoom, x -> x.nominate(0, 4, bid));
            state("8 no room, not free, bid " + bid, OrderTest::noRoom, x -> x.nominate(0, 1, bid));
        }
    }

    private static void nominateWithWrongBid() {
        argument("8 less than the price", Leagues::ready, x -> x.nominate(0, 0, 1));
        argument("8 more than its money", Leagues::ready, x -> x.nominate(0, 0, 51));
        argument("8 less than the price, its own", Leagues::sold, x -> x.nominate(2, 2, 1));
        argument("8 less than the price, another's", Leagues::sold, x -> x.nominate(2, 0, 1));
        argument("8 more than its money, its own", Leagues::sold, x -> x.nominate(2, 2, 44));
        argument("8 more than its money, another's", Leagues::sold, x -> x.nominate(2, 0, 44));
    }

    private static void nominateWhoIsNotFree() {
        unsupported("8 its own", Leagues::sold, x -> x.nominate(2, 2, 2));
        unsupported("8 another's", Leagues::sold, x -> x.nominate(2, 0, 43));
    }

    private static void bidWithoutSuch() {
        for (int none : NO_SUCH) {
            for (int amount : new int[] {0, 9, 51}) {
                index("9 no team, amount " + amount, Leagues::running, x -> x.bid(none, amount));
                index("9 no team, none up, amount " + amount, Leagues::ready, x -> x.bid(none, amount));
                index("9 no team, over, amount " + amount, Leagues::drafted, x -> x.bid(none, amount));
            }
        }
    }

    private static void bidInWrongState() {
        for (int amount : new int[] {0, 9, 51}) {
            state("9 none up yet, amount " + amount, Leagues::ready, x -> x.bid(0, amount));
            state("9 none up any more, amount " + amount, Leagues::sold, x -> x.bid(0, amount));
            state("9 who led, amount " + amount, Leagues::sold, x -> x.bid(1, amount));
            state("9 none up, no room, amount " + amount, OrderTest::noRoom, x -> x.bid(0, amount));
            state("9 over, amount " + amount, Leagues::drafted, x -> x.bid(0, amount));
            state("9 over, no room, amount " + amount, OrderTest::noRoomOver, x -> x.bid(0, amount));
        }
    }

    private static void bidWithWrongAmount() {
        for (int amount : new int[] {4, 5, 51}) {
            argument("9 amount " + amount, Leagues::running, x -> x.bid(1, amount));
            argument("9 leads, amount " + amount, Leagues::running, x -> x.bid(0, amount));
            argument("9 no room, amount " + amount, OrderTest::onlyTheLastHasRoom, x -> x.bid(0, amount));
        }
        argument("9 leads without room, amount 50", OrderTest::upWithoutRoom, x -> x.bid(1, 50));
        argument("9 leads without room, amount 51", OrderTest::upWithoutRoom, x -> x.bid(1, 51));
    }

    private static void bidOfWhoCannot() {
        unsupported("9 leads", Leagues::running, x -> x.bid(0, 6));
        unsupported("9 leads, all its money", Leagues::running, x -> x.bid(0, 50));
        unsupported("9 no room", OrderTest::onlyTheLastHasRoom, x -> x.bid(0, 6));
        unsupported("9 no room, all its money", OrderTest::onlyTheLastHasRoom, x -> x.bid(0, 48));
    }

    private static void proxy() {
        for (int none : NO_SUCH) {
            for (int most : new int[] {-1, 0, 9}) {
                index("10 no team, most " + most, Leagues::running, x -> x.proxy(none, 0, most));
                index("10 no player, most " + most, Leagues::running, x -> x.proxy(1, none, most));
                index("10 neither, most " + most, Leagues::running, x -> x.proxy(none, none, most));
                index("10 no team, over, most " + most, Leagues::drafted, x -> x.proxy(none, 0, most));
            }
        }
        argument("10 most -1", Leagues::ready, x -> x.proxy(0, 0, -1));
        argument("10 most -1, up", Leagues::running, x -> x.proxy(1, 0, -1));
        argument("10 most -1, sold", Leagues::sold, x -> x.proxy(1, 0, -1));
        argument("10 most -1, over", Leagues::drafted, x -> x.proxy(1, 0, -1));
    }

    private static void draftCalls() {
        state("11 none up", Leagues::ready, x -> x.knock());
        state("11 sold", Leagues::sold, x -> x.knock());
        state("11 over", Leagues::drafted, x -> x.knock());
        state("12 over", Leagues::drafted, x -> x.turnOf());
        state("12 up", Leagues::running, x -> x.turnOf());
        state("12 over, no room", OrderTest::noRoomOver, x -> x.turnOf());
        state("12 over, no team", OrderTest::emptyAndOver, x -> x.turnOf());
        state("12 up, no room", OrderTest::upWithoutRoom, x -> x.turnOf());
        element("12 no room", OrderTest::noRoom, x -> x.turnOf());
        element("12 no team", Leagues::empty, x -> x.turnOf());
        state("13 over", Leagues::drafted, x -> x.endDraft());
        state("13 over, weeks too", OrderTest::allWeeksOver, x -> x.endDraft());
        state("13 up", Leagues::running, x -> x.endDraft());
        state("13 up, no room", OrderTest::upWithoutRoom, x -> x.endDraft());
        element("15 free", Leagues::sold, x -> x.paidFor(5));
    }

    // ---- claims and trades

    private static void claimWithoutSuch() {
        for (int none : NO_SUCH) {
            for (int amount : new int[] {-1, 1, 38}) {
                index("18 no team", Leagues::drafted, x -> x.claim(none, 5, -1, amount));
                index("18 no player", Leagues::drafted, x -> x.claim(0, none, -1, amount));
                index("18 no out", Leagues::drafted, x -> x.claim(0, 5, 9, amount));
                index("18 out -2", Leagues::drafted, x -> x.claim(0, 5, -2, amount));
                index("18 no team, not over", Leagues::sold, x -> x.claim(none, 5, -1, amount));
                index("18 no player, not over", Leagues::sold, x -> x.claim(0, none, -1, amount));
                index("18 no out, not over", Leagues::sold, x -> x.claim(0, 5, 9, amount));
                index("18 no team, weeks over", OrderTest::allWeeksOver, x -> x.claim(none, 5, -1, amount));
                index("18 no out, 40 claims", OrderTest::fortyClaims, x -> x.claim(0, 5, 9, amount));
                index("18 no team, not free", Leagues::drafted, x -> x.claim(none, 0, -1, amount));
                index("18 no player, out not its own", Leagues::drafted, x -> x.claim(0, none, 1, amount));
                index("18 no out, not free", Leagues::drafted, x -> x.claim(0, 1, -2, amount));
            }
        }
    }

    private static void claimInWrongState() {
        for (int amount : new int[] {-1, 1, 38}) {
            claimRefusedBy("not over", Leagues::sold, amount);
            claimRefusedBy("up", () -> {
                DraftLeague x = Leagues.sold();
                x.nominate(2, 6, 2);
                return x;
            }, amount);
            claimRefusedBy("weeks over", OrderTest::allWeeksOver, amount);
            claimRefusedBy("40 claims", OrderTest::fortyClaims, amount);
        }
    }

    private static void claimRefusedBy(String what, Supplier<DraftLeague> setting, int amount) {
        state("18 " + what, setting, x -> x.claim(0, 5, -1, amount));
        state("18 " + what + ", not free", setting, x -> x.claim(0, 0, -1, amount));
        state("18 " + what + ", out not its own", setting, x -> x.claim(0, 5, 1, amount));
        state("18 " + what + ", neither", setting, x -> x.claim(0, 0, 1, amount));
    }

    private static void claimOfWrongPlayers() {
        for (int amount : new int[] {-1, 1, 38}) {
            unsupported("18 its own", Leagues::drafted, x -> x.claim(0, 0, -1, amount));
            unsupported("18 another's", Leagues::drafted, x -> x.claim(0, 1, -1, amount));
            unsupported("18 not free, out its own", Leagues::drafted, x -> x.claim(0, 1, 0, amount));
            unsupported("18 out another's", Leagues::drafted, x -> x.claim(0, 5, 1, amount));
            unsupported("18 out free", Leagues::drafted, x -> x.claim(0, 5, 6, amount));
            unsupported("18 out the same", Leagues::drafted, x -> x.claim(0, 5, 5, amount));
        }
    }

    private static void claimOfWrongAmount() {
        argument("18 amount -1", Leagues::drafted, x -> x.claim(0, 5, -1, -1));
        argument("18 amount 38", Leagues::drafted, x -> x.claim(0, 5, -1, 38));
        argument("18 amount -1, out", Leagues::drafted, x -> x.claim(0, 5, 0, -1));
        argument("18 amount 38, out", Leagues::drafted, x -> x.claim(0, 5, 0, 38));
    }

    private static void offerWithoutSuch() {
        for (int none : NO_SUCH) {
            for (int amount : new int[] {-99, 0, 99}) {
                index("19 no team", Leagues::drafted, x -> x.offer(none, 0, 1, amount));
                index("19 no player", Leagues::drafted, x -> x.offer(0, none, 1, amount));
                index("19 no other", Leagues::drafted, x -> x.offer(0, 0, none, amount));
                index("19 no team, in the draft", Leagues::sold, x -> x.offer(none, 0, 1, amount));
                index("19 no player, 30 offers", OrderTest::thirtyOffers, x -> x.offer(0, none, 1, amount));
                index("19 no other, 30 offers", OrderTest::thirtyOffers, x -> x.offer(0, 0, none, amount));
                index("19 no player, other its own", Leagues::drafted, x -> x.offer(0, none, 3, amount));
                index("19 no player, other free", Leagues::drafted, x -> x.offer(0, none, 5, amount));
                index("19 no other, player another's", Leagues::drafted, x -> x.offer(0, 1, none, amount));
                index("19 no other, player free", Leagues::drafted, x -> x.offer(0, 5, none, amount));
            }
        }
    }

    private static void offerOfWrongPlayers() {
        for (int amount : new int[] {-99, 0, 99}) {
            offerRefusedIn("drafted", Leagues::drafted, amount);
            offerRefusedIn("in the draft", Leagues::sold, amount);
            offerRefusedIn("30 offers", OrderTest::thirtyOffers, amount);
        }
    }

    private static void offerRefusedIn(String what, Supplier<DraftLeague> setting, int amount) {
        unsupported("19 another's, " + what, setting, x -> x.offer(0, 1, 2, amount));
        unsupported("19 free, " + what, setting, x -> x.offer(0, 5, 2, amount));
        unsupported("19 the other its own, " + what, setting, x -> x.offer(0, 0, 3, amount));
        unsupported("19 both the same, " + what, setting, x -> x.offer(0, 0, 0, amount));
        unsupported("19 the other free, " + what, setting, x -> x.offer(0, 0, 5, amount));
        unsupported("19 both free, " + what, setting, x -> x.offer(0, 5, 6, amount));
        unsupported("19 the wrong way around, " + what, setting, x -> x.offer(0, 1, 0, amount));
    }

    private static void offerInWrongState() {
        for (int amount : new int[] {-99, 0, 99}) {
            state("19 in the draft", Leagues::sold, x -> x.offer(0, 0, 1, amount));
            state("19 30 offers", OrderTest::thirtyOffers, x -> x.offer(0, 0, 1, amount));
        }
    }

    private static void offerOfWrongAmount() {
        argument("19 pays more than it has", Leagues::drafted, x -> x.offer(0, 0, 1, 38));
        argument("19 asks for more than there is", Leagues::drafted, x -> x.offer(0, 0, 1, -36));
    }

    private static void acceptAndVeto() {
        for (int none : NO_SUCH) {
            index("20 no offer", Leagues::accepted, x -> x.accept(none));
            index("21 no offer", Leagues::accepted, x -> x.veto(none, 2));
            index("21 no offer, has a part", Leagues::accepted, x -> x.veto(none, 0));
            index("21 no team", Leagues::accepted, x -> x.veto(0, none));
            index("21 neither", Leagues::accepted, x -> x.veto(none, none));
            index("21 no team, open", Leagues::offered, x -> x.veto(0, none));
            index("21 no team, over", Leagues::traded, x -> x.veto(0, none));
            index("22 no offer", Leagues::accepted, x -> x.offerState(none));
        }
        unsupported("20 accepted", Leagues::accepted, x -> x.accept(0));
        unsupported("20 voted against", Leagues::votedAgainst, x -> x.accept(0));
        unsupported("20 done", Leagues::traded, x -> x.accept(0));
        unsupported("20 vetoed", OrderTest::vetoed, x -> x.accept(0));
        unsupported("20 void", OrderTest::voided, x -> x.accept(1));
        unsupported("21 open", Leagues::offered, x -> x.veto(0, 2));
        unsupported("21 open, has a part", Leagues::offered, x -> x.veto(0, 0));
        unsupported("21 done", Leagues::traded, x -> x.veto(0, 2));
        unsupported("21 vetoed", OrderTest::vetoed, x -> x.veto(0, 2));
        unsupported("21 void", OrderTest::voided, x -> x.veto(1, 1));
        unsupported("21 offered it", Leagues::accepted, x -> x.veto(0, 0));
        unsupported("21 was asked", Leagues::accepted, x -> x.veto(0, 1));
        unsupported("21 has voted", Leagues::votedAgainst, x -> x.veto(0, 2));
    }

    private static DraftLeague vetoed() {
        DraftLeague x = Leagues.votedAgainst();
        x.endWeek();
        return x;
    }

    /** The second offer is of a player who went with the first. */
    private static DraftLeague voided() {
        DraftLeague x = Leagues.accepted();
        x.accept(x.offer(0, 0, 2, 0));
        x.endWeek();
        return x;
    }

    // ---- weeks and tables

    private static void meet() {
        for (int none : NO_SUCH) {
            for (int week : new int[] {-1, 0, 1, 20}) {
                index("23 no one, week " + week, Leagues::played, x -> x.meet(week, none, 1));
                index("23 no other, week " + week, Leagues::played, x -> x.meet(week, 1, none));
                index("23 both the same, week " + week, Leagues::played, x -> x.meet(week, none, none));
            }
        }
        for (int week : new int[] {-1, 0, 1, 20}) {
            argument("23 both the same, week " + week, Leagues::played, x -> x.meet(week, 1, 1));
        }
        for (int week : new int[] {-1, 0, 20}) {
            argument("23 week " + week, Leagues::played, x -> x.meet(week, 0, 1));
            argument("23 both unlike, week " + week, Leagues::played, x -> x.meet(week, 2, 0));
        }
    }

    private static void did() {
        int[][] wrong = {{-1, 0, 1}, {20, 0, 1}, {0, -1, 1}, {0, 4, 1}, {0, 0, -1}, {0, 0, 100}};
        for (int[] n : wrong) {
            argument("24 range", Leagues::played, x -> x.did(n[0], 0, n[1], n[2]));
            argument("24 range, final", OrderTest::closed, x -> x.did(n[0], 0, n[1], n[2]));
            for (int none : NO_SUCH) {
                index("24 no player, range", Leagues::played, x -> x.did(n[0], none, n[1], n[2]));
                index("24 no player, range, final", OrderTest::closed, x -> x.did(n[0], none, n[1], n[2]));
            }
        }
        for (int none : NO_SUCH) {
            index("24 no player", Leagues::played, x -> x.did(0, none, 0, 1));
            index("24 no player, final", OrderTest::closed, x -> x.did(0, none, 0, 1));
        }
        unsupported("24 final", OrderTest::closed, x -> x.did(0, 0, 0, 1));
        unsupported("24 final, as told", OrderTest::closed, x -> x.did(0, 0, 0, 5));
    }

    private static void weeksOver() {
        state("25 in the draft", Leagues::sold, x -> x.endWeek());
        state("25 up", Leagues::running, x -> x.endWeek());
        state("25 all over", OrderTest::allWeeksOver, x -> x.endWeek());
        argument("27 not over", Leagues::played, x -> x.setFinal(1));
        for (int none : NO_SUCH) {
            for (int week : new int[] {-1, 0, 20}) {
                index("28 no player, week " + week, Leagues::played, x -> x.points(week, none));
                index("29 no team, week " + week, Leagues::played, x -> x.score(week, none));
            }
        }
        for (int week : new int[] {-1, 20}) {
            argument("28 week " + week, Leagues::played, x -> x.points(week, 0));
            argument("29 week " + week, Leagues::played, x -> x.score(week, 0));
        }
    }

    private static void fills() {
        for (int none : NO_SUCH) {
            for (int week : new int[] {-1, 0, 1, 20}) {
                index("30 no team, week " + week, Leagues::played, x -> x.fills(week, none, 0));
                index("30 no player, week " + week, Leagues::played, x -> x.fills(week, 0, none));
                index("30 neither, week " + week, Leagues::played, x -> x.fills(week, none, none));
            }
        }
        for (int week : new int[] {-1, 20}) {
            argument("30 week " + week, Leagues::played, x -> x.fills(week, 0, 0));
            argument("30 another's, week " + week, Leagues::played, x -> x.fills(week, 0, 1));
            argument("30 free, week " + week, Leagues::played, x -> x.fills(week, 0, 5));
        }
        for (int week : new int[] {0, 1, 19}) {
            element("30 another's", Leagues::played, x -> x.fills(week, 0, 1));
            element("30 free", Leagues::played, x -> x.fills(week, 0, 5));
        }
    }

    private static void result() {
        for (int none : NO_SUCH) {
            for (int week : new int[] {-1, 0, 1, 20}) {
                index("31 no team, week " + week, Leagues::played, x -> x.result(week, none));
            }
        }
        for (int week : new int[] {-1, 1, 19, 20}) {
            argument("31 no match, week " + week, Leagues::played, x -> x.result(week, 2));
            argument("31 a match ahead, week " + week, OrderTest::matchAhead, x -> x.result(week, 0));
        }
        element("31 no match", Leagues::played, x -> x.result(0, 2));
    }

    private static DraftLeague matchAhead() {
        DraftLeague x = Leagues.played();
        x.meet(1, 0, 1);
        x.meet(19, 0, 1);
        return x;
    }

    // ---- tables and figures

    private static void figures() {
        for (int none : NO_SUCH) {
            index("32 no team", Leagues::played, x -> x.rank(none));
            index("33 no rank", Leagues::played, x -> x.ranked(none));
            index("34 no team", Leagues::played, x -> x.wins(none));
            index("35 no team", Leagues::played, x -> x.sumOf(none));
            index("37 no offer", Leagues::traded, x -> x.tradeValue(none));
            index("14 no player", Leagues::played, x -> x.ownerOf(none));
            index("15 no player", Leagues::played, x -> x.paidFor(none));
            index("16 no team", Leagues::played, x -> x.money(none));
            index("17 no team", Leagues::played, x -> x.size(none));
        }
        CHECK.refused("40 no players", Leagues.ARITHMETIC, Leagues::empty, x -> x.freeShare());
        CHECK.refused("41 no weeks", Leagues.ARITHMETIC, Leagues::drafted, x -> x.meanScore());
        CHECK.refused("41 neither", Leagues.ARITHMETIC, Leagues::empty, x -> x.meanScore());
        CHECK.refused("41 no teams", Leagues.ARITHMETIC, OrderTest::weekWithoutTeams, x -> x.meanScore());
    }

    private static DraftLeague weekWithoutTeams() {
        DraftLeague x = emptyAndOver();
        x.endWeek();
        return x;
    }
}
