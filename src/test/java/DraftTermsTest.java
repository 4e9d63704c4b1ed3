/** The sentences of "Terms" on teams and room, on turns, on bids that teams make by themselves, and on the clock. */
public final class DraftTermsTest {
    private static final Check CHECK = new Check();

    public static void main(String[] args) {
        roomIsFewerThanPlaces();
        roomShrinks();
        playersAreOfOneTeam();
        turnBeginsWithTheFirstThatHasRoom();
        turnSkipsAndComesBack();
        turnGoesAround();
        turnGoesAroundWhoHasNoRoom();
        turnGoesOnFromWhoseItWas();
        turnStaysWhileNothingIsSold();
        whoNominatesLeads();
        proxyMustBeGreater();
        moneyMustBeGreater();
        lesserOfProxyAndMoney();
        greatestLesserBids();
        lowestOfEquals();
        againUntilThereIsNone();
        leaderDoesNotBid();
        withoutRoomNoBid();
        proxyToldForWhoIsUp();
        proxyToldForAnother();
        proxyTakenBack();
        proxyOfThisPlayer();
        bidsWakeProxies();
        moneyOfNow();
        leaderPaysItsBid();
        leaderWithoutRoom();
        CHECK.finish();
    }

    private static void buy(DraftLeague x, int team, int player) {
        x.nominate(x.turnOf(), player, 2);
        if (x.bid(team, 3)) {
            x.knock();
        }
    }

    /** One team with one place for each position and three on the bench, eight players, and so many of them its own. */
    private static DraftLeague alone(int players) {
        DraftLeague x = Leagues.plain(1, 50, 8);
        for (int player = 0; player < players; player++) {
            x.nominate(0, player, 2);
            x.knock();
        }
        return x;
    }

    // ---- teams and room

    private static void roomIsFewerThanPlaces() {
        CHECK.due("Teams: room with none", alone(0).turnOf(), 0);
        CHECK.due("Teams: room with six", alone(6).turnOf(), 0);
        CHECK.refused("Teams: no room with seven", Leagues.ELEMENT, () -> alone(7), x -> x.turnOf());
        for (int position = 0; position < 4; position++) {
            DraftLeague x = alone(7);
            x.setPlaces(position, 2);
            CHECK.due("Teams: one more place", x.turnOf(), 0);
        }
        DraftLeague benched = alone(7);
        benched.setBench(4);
        CHECK.due("Teams: one more on the bench", benched.turnOf(), 0);
    }

    private static DraftLeague shrunk() {
        DraftLeague x = alone(6);
        x.setBench(0);
        return x;
    }

    /** Who has more players than places keeps them, and has no room. */
    private static void roomShrinks() {
        DraftLeague x = shrunk();
        CHECK.due("Teams: keeps all", x.size(0), 6);
        x.did(0, 5, 0, 1);
        CHECK.due("Teams: each of them may fill a place", x.fills(0, 0, 5), 3);
        CHECK.due("Teams: one is left over without a bench", x.fills(0, 0, 4), -1);
        x.endDraft();
        x.claim(0, 6, -1, 1);
        x.claim(0, 7, 5, 1);
        x.endWeek();
        CHECK.due("Teams: no room for a claim", x.ownerOf(6), -1);
        CHECK.due("Teams: where one goes, room is not asked for", x.ownerOf(7), 0);
        CHECK.refused("Teams: no room with more than places", Leagues.ELEMENT, DraftTermsTest::shrunk,
                y -> y.turnOf());
    }

    private static void playersAreOfOneTeam() {
        DraftLeague x = Leagues.traded();
        x.claim(0, 5, 3, 1);
        x.endWeek();
        int all = 0;
        int money = 0;
        for (int team = 0; team < 3; team++) {
            all += x.size(team);
            money += x.money(team);
        }
        CHECK.due("Terms: no player is of two teams", all, 5);
        CHECK.due("Terms: money sums to none", money + x.pot(), 3 * 50);
    }

    // ---- the turn

    private static void turnBeginsWithTheFirstThatHasRoom() {
        DraftLeague x = Leagues.ready();
        CHECK.due("Draft: from the team 0 on", x.turnOf(), 0);
        x.nominate(0, 0, 2);
        x.knock();
        CHECK.due("Draft: then the next", x.turnOf(), 1);
    }

    private static void turnSkipsAndComesBack() {
        DraftLeague x = Leagues.ready();
        Leagues.onePlace(x);
        buy(x, 1, 0);
        CHECK.due("Draft: skips who has no room", x.turnOf(), 2);
        x.setBench(1);
        CHECK.due("Draft: with room again it is skipped no more", x.turnOf(), 1);
        x.setBench(0);
        CHECK.due("Draft: and without room again it is", x.turnOf(), 2);
    }

    private static void turnGoesAround() {
        DraftLeague x = Leagues.plain(3, 50, 10);
        for (int player = 0; player < 10; player++) {
            CHECK.due("Draft: around and around", x.turnOf(), player % 3);
            x.nominate(player % 3, player, 2);
            x.knock();
        }
    }

    /** The last team, and the first ones behind it, have no room: the turn goes around past all of them. */
    private static void turnGoesAroundWhoHasNoRoom() {
        DraftLeague x = Leagues.plain(5, 50, 8);
        Leagues.onePlace(x);
        buy(x, 4, 0);
        CHECK.due("Draft: behind 0", x.turnOf(), 1);
        buy(x, 0, 1);
        buy(x, 1, 2);
        CHECK.due("Draft: behind 2", x.turnOf(), 3);
        buy(x, 2, 3);
        CHECK.due("Draft: past 4, 0, 1 and 2", x.turnOf(), 3);
        x.nominate(3, 4, 2);
        x.knock();
        x.setBench(1);
        CHECK.due("Draft: behind 3, whose turn it was twice", x.turnOf(), 4);
        x.nominate(4, 5, 2);
        x.knock();
        CHECK.due("Draft: behind the last one", x.turnOf(), 0);
    }

    /** Whose turn it was, not who got the player, nor who was ahead of it without room. */
    private static void turnGoesOnFromWhoseItWas() {
        DraftLeague x = Leagues.ready();
        x.nominate(0, 0, 2);
        x.bid(2, 3);
        x.knock();
        CHECK.due("Draft: behind who nominated", x.turnOf(), 1);
        x.nominate(1, 1, 2);
        x.bid(0, 3);
        x.knock();
        CHECK.due("Draft: behind who nominated, again", x.turnOf(), 2);
        DraftLeague skips = Leagues.ready();
        Leagues.onePlace(skips);
        buy(skips, 1, 0);
        skips.nominate(2, 1, 2);
        skips.knock();
        skips.setBench(1);
        CHECK.due("Draft: behind the one that was not skipped", skips.turnOf(), 0);
    }

    private static void turnStaysWhileNothingIsSold() {
        DraftLeague x = Leagues.ready();
        CHECK.due("Draft: asked", x.turnOf(), 0);
        CHECK.due("Draft: asked again", x.turnOf(), 0);
        x.proxy(1, 0, 9);
        x.addPlayer(1, 1);
        x.setPositions(0, 1);
        CHECK.due("Draft: other calls are no turns", x.turnOf(), 0);
        CHECK.refused("Draft: who is up is no turn yet", Leagues.STATE, Leagues::running, y -> y.turnOf());
    }

    // ---- bids

    private static void whoNominatesLeads() {
        DraftLeague x = Leagues.ready();
        CHECK.due("Draft: who nominates leads", x.nominate(0, 4, 7), 0);
        CHECK.refused("Draft: with its bid", Leagues.ARGUMENT, Leagues::running, y -> y.bid(1, 5));
        CHECK.due("Draft: gets", x.knock(), 0);
        CHECK.due("Draft: for its bid", x.paidFor(4), 7);
    }

    /** Team 0 nominates player 0 for 5; team 1 has this proxy, and team 2 none. */
    private static DraftLeague againstProxy(int most) {
        DraftLeague x = Leagues.ready();
        x.proxy(1, 0, most);
        x.nominate(0, 0, 5);
        return x;
    }

    private static void sold(String what, DraftLeague x, int team, int amount) {
        CHECK.due(what + ", who gets", x.knock(), team);
        CHECK.due(what + ", who has", x.ownerOf(0), team);
        CHECK.due(what + ", for how much", x.paidFor(0), amount);
    }

    private static void proxyMustBeGreater() {
        sold("Draft: a proxy less than the bid", againstProxy(4), 0, 5);
        sold("Draft: a proxy like the bid", againstProxy(5), 0, 5);
        sold("Draft: a proxy 1 greater", againstProxy(6), 1, 6);
        sold("Draft: a proxy far greater bids 1 more", againstProxy(50), 1, 6);
        sold("Draft: a proxy greater than all money", againstProxy(51), 1, 6);
        sold("Draft: the greatest int as a proxy", againstProxy(Integer.MAX_VALUE), 1, 6);
        sold("Draft: no proxy", againstProxy(0), 0, 5);
    }

    /** Team 1 has so much money and a proxy of 99; team 0 nominates player 0 for 5. */
    private static DraftLeague againstMoney(int money) {
        DraftLeague x = new DraftLeague();
        x.addTeam(50);
        x.addTeam(money);
        x.addPlayer(15, 1);
        x.proxy(1, 0, 99);
        x.nominate(0, 0, 5);
        return x;
    }

    private static void moneyMustBeGreater() {
        sold("Draft: money less than the bid", againstMoney(4), 0, 5);
        sold("Draft: money like the bid", againstMoney(5), 0, 5);
        sold("Draft: money 1 greater", againstMoney(6), 1, 6);
        DraftLeague x = againstMoney(6);
        x.knock();
        CHECK.due("Draft: pays its money at most", x.money(1), 0);
        sold("Draft: no money", againstMoney(0), 0, 5);
    }

    /** Teams 1 and 2 with their money and their proxies; team 0 nominates player 0 for 5. */
    private static DraftLeague fight(int money, int proxy, int otherMoney, int otherProxy) {
        DraftLeague x = new DraftLeague();
        x.addTeam(50);
        x.addTeam(money);
        x.addTeam(otherMoney);
        x.addPlayer(15, 1);
        x.proxy(1, 0, proxy);
        x.proxy(2, 0, otherProxy);
        x.nominate(0, 0, 5);
        return x;
    }

    private static void lesserOfProxyAndMoney() {
        sold("Draft: 9 of 99 against 12 of 12", fight(9, 99, 12, 12), 2, 10);
        sold("Draft: 9 of 9 against 99 of 12", fight(99, 9, 12, 99), 2, 10);
        sold("Draft: 12 of 99 against 9 of 9", fight(12, 99, 9, 9), 1, 10);
        sold("Draft: money and proxy are both great", fight(20, 30, 30, 18), 1, 18);
    }

    private static void greatestLesserBids() {
        sold("Draft: the greatest one bids first and alone", fight(50, 30, 50, 6), 1, 6);
        sold("Draft: the other way around", fight(50, 6, 50, 30), 2, 6);
        sold("Draft: 1 apart", fight(50, 29, 50, 30), 2, 30);
        sold("Draft: 1 apart, the other way around", fight(50, 30, 50, 29), 1, 30);
    }

    private static void lowestOfEquals() {
        sold("Draft: of several with 6 the lowest", fight(50, 6, 50, 6), 1, 6);
        sold("Draft: with 7 the other comes last", fight(50, 7, 50, 7), 2, 7);
        sold("Draft: with 8 the lowest comes last", fight(50, 8, 50, 8), 1, 8);
        sold("Draft: equal by money and by proxy", fight(6, 99, 50, 6), 1, 6);
        DraftLeague x = Leagues.plain(8, 50, 1);
        for (int team = 7; team > 0; team--) {
            x.proxy(team, 0, 6);
        }
        CHECK.due("Draft: of seven the lowest", x.nominate(0, 0, 5), 1);
    }

    private static void againUntilThereIsNone() {
        sold("Draft: up to the lesser limit", fight(50, 20, 50, 40), 2, 20);
        sold("Draft: up to both limits", fight(500, 500, 500, 500), 1, 500);
        sold("Draft: up to both limits, odd", fight(499, 499, 499, 500), 2, 499);
        DraftLeague x = Leagues.plain(8, 500, 1);
        for (int team = 1; team < 8; team++) {
            x.proxy(team, 0, 100 + team);
        }
        CHECK.due("Draft: of seven the greatest", x.nominate(0, 0, 5), 7);
        sold("Draft: up to the limit of the second", x, 7, 106);
    }

    private static void leaderDoesNotBid() {
        DraftLeague x = Leagues.running();
        CHECK.due("Draft: the leader tells a proxy", x.proxy(0, 0, 40), 0);
        CHECK.due("Draft: it is of use against bids", x.bid(1, 9), false);
        CHECK.due("Draft: and once more", x.bid(2, 40), true);
        sold("Draft: it ends at its most", x, 2, 40);
        DraftLeague y = Leagues.running();
        y.proxy(0, 0, 40);
        sold("Draft: the leader bids nothing against itself", y, 0, 5);
    }

    /** Each team has one place; 0 and 1 have a player; player 3 is up, and team 2 leads with 5. */
    private static DraftLeague onlyTheLastHasRoom() {
        DraftLeague x = Leagues.ready();
        Leagues.onePlace(x);
        x.nominate(0, 1, 2);
        x.knock();
        x.nominate(1, 2, 2);
        x.knock();
        x.proxy(0, 0, 40);
        x.nominate(2, 0, 5);
        return x;
    }

    private static void withoutRoomNoBid() {
        DraftLeague x = onlyTheLastHasRoom();
        x.proxy(1, 0, 40);
        sold("Draft: no bids by teams without room", x, 2, 5);
        DraftLeague room = onlyTheLastHasRoom();
        room.setBench(1);
        room.proxy(1, 0, 6);
        sold("Draft: bids by teams with room again", room, 0, 6);
    }

    private static void proxyToldForWhoIsUp() {
        DraftLeague x = Leagues.running();
        x.proxy(2, 0, 9);
        CHECK.refused("Draft: bids as soon as it is told", Leagues.UNSUPPORTED, () -> {
            DraftLeague y = Leagues.running();
            y.proxy(2, 0, 9);
            return y;
        }, y -> y.bid(2, 7));
        x.proxy(1, 0, 8);
        sold("Draft: another is told", x, 2, 8);
        DraftLeague equal = Leagues.running();
        equal.proxy(2, 0, 5);
        sold("Draft: told, but no more than the bid", equal, 0, 5);
    }

    private static void proxyToldForAnother() {
        DraftLeague x = Leagues.running();
        x.proxy(2, 1, 40);
        sold("Draft: told for another", x, 0, 5);
        CHECK.due("Draft: it bids as that one is up", x.nominate(1, 1, 2), 2);
    }

    private static void proxyTakenBack() {
        DraftLeague x = Leagues.ready();
        x.proxy(1, 0, 9);
        x.proxy(1, 0, 0);
        x.nominate(0, 0, 5);
        sold("Draft: 0 for no more", x, 0, 5);
        DraftLeague late = Leagues.running();
        late.proxy(1, 0, 9);
        late.proxy(1, 0, 0);
        CHECK.due("Draft: it bids no more", late.bid(2, 7), true);
        DraftLeague leads = Leagues.running();
        leads.proxy(1, 0, 9);
        leads.proxy(1, 0, 0);
        sold("Draft: the bid that leads stays", leads, 1, 6);
    }

    private static void proxyOfThisPlayer() {
        DraftLeague x = Leagues.ready();
        x.proxy(1, 1, 40);
        x.nominate(0, 0, 5);
        sold("Draft: the proxy for another player", x, 0, 5);
        DraftLeague last = Leagues.plain(8, 50, 60);
        last.proxy(7, 59, 9);
        CHECK.due("Draft: the last team for the last player", last.nominate(0, 59, 2), 7);
    }

    private static void bidsWakeProxies() {
        DraftLeague x = Leagues.running();
        x.proxy(2, 0, 20);
        CHECK.due("Draft: less than the proxy", x.bid(1, 19), false);
        CHECK.due("Draft: no more than the proxy bids", x.bid(1, 21), true);
        sold("Draft: more than the proxy", x, 1, 21);
        DraftLeague like = Leagues.running();
        like.proxy(2, 0, 20);
        CHECK.due("Draft: like the proxy", like.bid(1, 20), true);
        sold("Draft: like the proxy, which has to be greater", like, 1, 20);
    }

    /** A proxy of 45 is worth 44 once the team has paid 6. */
    private static void moneyOfNow() {
        DraftLeague x = Leagues.ready();
        x.proxy(1, 0, 45);
        x.nominate(0, 1, 2);
        x.bid(1, 6);
        x.knock();
        x.nominate(1, 2, 2);
        x.bid(0, 3);
        x.knock();
        x.nominate(2, 0, 44);
        sold("Draft: no money for 45 any more", x, 2, 44);
    }

    // ---- the clock

    private static void leaderPaysItsBid() {
        DraftLeague x = Leagues.running();
        x.bid(1, 8);
        x.bid(2, 50);
        CHECK.due("Draft: nothing is paid yet", x.pot(), 0);
        CHECK.due("Draft: nobody has paid", x.money(2), 50);
        sold("Draft: the leader", x, 2, 50);
        CHECK.due("Draft: into the pot", x.pot(), 50);
        CHECK.due("Draft: all its money", x.money(2), 0);
        CHECK.due("Draft: others pay nothing", x.money(1), 50);
    }

    private static void leaderWithoutRoom() {
        DraftLeague x = onlyTheLastHasRoom();
        x.setPlaces(0, 0);
        sold("Draft: without room", x, 2, 5);
        CHECK.due("Draft: one more than places", x.size(2), 1);
        CHECK.due("Draft: sound without room", x.isSound(), true);
    }
}
