import java.util.function.Supplier;

/** Promises 8 to 17: the auction, its turns and proxies, and whose the players are. */
public final class DraftTest {
    private static final Check CHECK = new Check();

    public static void main(String[] args) {
        nominate();
        nominateRefused();
        bid();
        bidRefused();
        proxy();
        proxyFightsProxy();
        proxiesFightForAllTheirMoney();
        proxyOfATeamWithoutRoom();
        proxyOnlyActsWhenSomethingIsTold();
        proxyRefused();
        knock();
        knockWithoutRoom();
        turnOf();
        turnGoesRound();
        endDraft();
        owners();
        moneyAndSize();
        CHECK.finish();
    }

    private static void nominate() {
        DraftLeague x = Leagues.ready();
        CHECK.due("8 leads", x.nominate(0, 3, 2), 0);
        CHECK.due("8 pays its bid", x.knock(), 0);
        CHECK.due("8 owner", x.ownerOf(3), 0);
        CHECK.due("8 paid", x.paidFor(3), 2);
        CHECK.due("8 all its money", x.nominate(1, 0, 50), 1);
        x.knock();
        CHECK.due("8 no money left", x.money(1), 0);
    }

    private static void nominateRefused() {
        CHECK.refused("8 no team", Leagues.INDEX, Leagues::ready, y -> y.nominate(3, 0, 2));
        CHECK.refused("8 team -1", Leagues.INDEX, Leagues::drafted, y -> y.nominate(-1, 0, 2));
        CHECK.refused("8 no player", Leagues.INDEX, Leagues::running, y -> y.nominate(0, 7, 0));
        CHECK.refused("8 player -1", Leagues.INDEX, Leagues::ready, y -> y.nominate(0, -1, 0));
        CHECK.refused("8 draft over", Leagues.STATE, Leagues::drafted, y -> y.nominate(2, 5, 5));
        CHECK.refused("8 draft over, bid too low", Leagues.STATE, Leagues::drafted, y -> y.nominate(2, 0, 0));
        CHECK.refused("8 another is up", Leagues.STATE, Leagues::running, y -> y.nominate(1, 1, 5));
        CHECK.refused("8 another is up, own turn", Leagues.STATE, Leagues::running, y -> y.nominate(0, 1, 5));
        CHECK.refused("8 the same is up", Leagues.STATE, Leagues::running, y -> y.nominate(0, 0, 9));
        CHECK.refused("8 not its turn", Leagues.STATE, Leagues::ready, y -> y.nominate(1, 0, 2));
        CHECK.refused("8 not its turn, bid too low", Leagues.STATE, Leagues::ready, y -> y.nominate(1, 0, 0));
        CHECK.refused("8 nobody's turn", Leagues.STATE, DraftTest::noRoom, y -> y.nominate(1, 4, 2));
        CHECK.refused("8 less than the price", Leagues.ARGUMENT, Leagues::ready, y -> y.nominate(0, 0, 1));
        CHECK.refused("8 more than its money", Leagues.ARGUMENT, Leagues::ready, y -> y.nominate(0, 0, 51));
        CHECK.refused("8 bid ahead of free", Leagues.ARGUMENT, Leagues::sold, y -> y.nominate(2, 0, 1));
        CHECK.refused("8 its own player", Leagues.UNSUPPORTED, Leagues::sold, y -> y.nominate(2, 2, 5));
        CHECK.refused("8 another's player", Leagues.UNSUPPORTED, Leagues::sold, y -> y.nominate(2, 0, 5));
    }

    private static void bid() {
        DraftLeague x = Leagues.running();
        CHECK.due("9 leads", x.bid(1, 6), true);
        CHECK.due("9 leads again", x.bid(0, 7), true);
        x.proxy(2, 0, 9);
        CHECK.due("9 the proxy leads with 8", x.bid(1, 9), true);
        CHECK.due("9 gets", x.knock(), 1);
        CHECK.due("9 paid", x.paidFor(0), 9);
        x.proxy(2, 1, 30);
        CHECK.due("9 a proxy leads at once", x.nominate(1, 1, 3), 2);
        CHECK.due("9 outbid by a proxy", x.bid(0, 20), false);
        CHECK.due("9 the proxy leads with 21", x.bid(0, 22), false);
        CHECK.due("9 all its money", x.bid(0, 50), true);
        CHECK.due("9 gets with all its money", x.knock(), 0);
        CHECK.due("9 pays all", x.money(0), 0);
    }

    private static void bidRefused() {
        CHECK.refused("9 no team", Leagues.INDEX, Leagues::running, y -> y.bid(3, 9));
        CHECK.refused("9 team -1", Leagues.INDEX, Leagues::ready, y -> y.bid(-1, 9));
        CHECK.refused("9 none is up", Leagues.STATE, Leagues::ready, y -> y.bid(0, 9));
        CHECK.refused("9 none is up any more", Leagues.STATE, Leagues::sold, y -> y.bid(0, -9));
        CHECK.refused("9 draft over", Leagues.STATE, Leagues::drafted, y -> y.bid(0, 9));
        CHECK.refused("9 no more than leads", Leagues.ARGUMENT, Leagues::running, y -> y.bid(1, 5));
        CHECK.refused("9 more than its money", Leagues.ARGUMENT, Leagues::running, y -> y.bid(1, 51));
        CHECK.refused("9 amount ahead of leading", Leagues.ARGUMENT, Leagues::running, y -> y.bid(0, 5));
        CHECK.refused("9 leads already", Leagues.UNSUPPORTED, Leagues::running, y -> y.bid(0, 6));
        CHECK.refused("9 no room", Leagues.UNSUPPORTED, DraftTest::onlyTheLastHasRoom, y -> y.bid(0, 6));
        CHECK.refused("9 amount ahead of room", Leagues.ARGUMENT, DraftTest::onlyTheLastHasRoom, y -> y.bid(0, 5));
    }

    /** Each team has one place; 0 and 1 have a player; player 3 is up, and team 2 leads with 5. */
    private static DraftLeague onlyTheLastHasRoom() {
        DraftLeague x = Leagues.ready();
        Leagues.onePlace(x);
        x.nominate(0, 0, 2);
        x.knock();
        x.nominate(1, 1, 2);
        x.knock();
        x.nominate(2, 3, 5);
        return x;
    }

    private static DraftLeague noRoom() {
        DraftLeague x = onlyTheLastHasRoom();
        x.knock();
        return x;
    }

    private static void proxy() {
        DraftLeague x = Leagues.running();
        CHECK.due("10 none before", x.proxy(1, 0, 8), 0);
        CHECK.due("10 before", x.proxy(1, 0, 9), 8);
        CHECK.due("10 of this player", x.proxy(1, 1, 4), 0);
        CHECK.due("10 of this team", x.proxy(2, 0, 6), 0);
        CHECK.due("10 gets", x.knock(), 1);
        CHECK.due("10 bids 1 more than 5", x.paidFor(0), 6);
        CHECK.due("10 stays", x.proxy(1, 0, 0), 9);
        CHECK.due("10 no more", x.proxy(1, 0, 3), 0);
        CHECK.due("10 largest", x.proxy(0, 2, Integer.MAX_VALUE), 0);
        CHECK.due("10 its own proxy is no other team's", x.nominate(1, 1, 3), 1);
        x.knock();
        CHECK.due("10 its own proxy raises nothing", x.paidFor(1), 3);
        DraftLeague over = Leagues.drafted();
        CHECK.due("10 the draft may be over", over.proxy(0, 0, 1), 0);
        CHECK.due("10 the draft may be over, before", over.proxy(0, 0, 2), 1);
    }

    private static void proxyFightsProxy() {
        DraftLeague x = Leagues.ready();
        x.proxy(1, 0, 20);
        x.proxy(2, 0, 20);
        CHECK.due("10 of several the lowest begins with 4", x.nominate(0, 0, 3), 1);
        x.knock();
        CHECK.due("10 up to the limit of both", x.paidFor(0), 20);
        DraftLeague odd = Leagues.ready();
        odd.proxy(1, 0, 20);
        odd.proxy(2, 0, 20);
        CHECK.due("10 of several the lowest begins with 5", odd.nominate(0, 0, 4), 2);
        DraftLeague most = Leagues.ready();
        most.proxy(1, 0, 20);
        most.proxy(2, 0, 12);
        CHECK.due("10 the greatest", most.nominate(0, 0, 3), 1);
        most.knock();
        CHECK.due("10 past the second", most.paidFor(0), 12);
        DraftLeague poor = poorAndRich();
        CHECK.due("10 money limits a proxy", poor.nominate(0, 0, 3), 2);
        poor.knock();
        CHECK.due("10 money limits its bids", poor.paidFor(0), 10);
        CHECK.due("10 its money", poor.money(2), 20);
    }

    /** From the least bid to the most money: no other bid takes as many steps. */
    private static void proxiesFightForAllTheirMoney() {
        DraftLeague x = Leagues.plain(3, 500, 0);
        x.addPlayer(1, 1);
        x.proxy(1, 0, Integer.MAX_VALUE);
        x.proxy(2, 0, 500);
        CHECK.due("10 all the money", x.nominate(0, 0, 1), 1);
        x.knock();
        CHECK.due("10 pays all the money", x.money(1), 0);
        CHECK.due("10 the pot has it", x.pot(), 500);
    }

    /** Team 1 has the greater proxy with less money. */
    private static DraftLeague poorAndRich() {
        DraftLeague x = new DraftLeague();
        x.addTeam(50);
        x.addTeam(9);
        x.addTeam(30);
        x.addPlayer(1, 1);
        x.proxy(1, 0, 40);
        x.proxy(2, 0, 11);
        return x;
    }

    private static void proxyOfATeamWithoutRoom() {
        DraftLeague x = onlyTheLastHasRoom();
        x.proxy(0, 3, 40);
        CHECK.due("10 no room, no bid", x.knock(), 2);
        CHECK.due("10 no room, no raise", x.paidFor(3), 5);
    }

    private static void proxyOnlyActsWhenSomethingIsTold() {
        DraftLeague x = onlyTheLastHasRoom();
        x.proxy(0, 3, 40);
        x.setBench(1);
        x.proxy(1, 4, 40);
        CHECK.due("10 still leads", x.bid(1, 6), false);
        CHECK.due("10 the proxy leads", x.knock(), 0);
        CHECK.due("10 the proxy pays", x.paidFor(3), 7);
        DraftLeague late = onlyTheLastHasRoom();
        late.proxy(0, 3, 40);
        late.setBench(1);
        CHECK.due("10 places alone raise nothing", late.knock(), 2);
        DraftLeague told = onlyTheLastHasRoom();
        told.proxy(0, 3, 40);
        told.setBench(1);
        told.proxy(2, 3, 0);
        CHECK.due("10 any proxy for who is up", told.knock(), 0);
    }

    private static void proxyRefused() {
        CHECK.refused("10 no team", Leagues.INDEX, Leagues::ready, y -> y.proxy(3, 0, 1));
        CHECK.refused("10 team -1", Leagues.INDEX, Leagues::ready, y -> y.proxy(-1, 0, 1));
        CHECK.refused("10 no player", Leagues.INDEX, Leagues::ready, y -> y.proxy(0, 7, -1));
        CHECK.refused("10 player -1", Leagues.INDEX, Leagues::ready, y -> y.proxy(0, -1, 1));
        CHECK.refused("10 less than 0", Leagues.ARGUMENT, Leagues::running, y -> y.proxy(1, 0, -1));
    }

    private static void knock() {
        DraftLeague x = Leagues.running();
        x.bid(2, 9);
        CHECK.due("11 who leads", x.knock(), 2);
        CHECK.due("11 owner", x.ownerOf(0), 2);
        CHECK.due("11 money", x.money(2), 41);
        CHECK.due("11 money of who was outbid", x.money(0), 50);
        CHECK.due("11 pot", x.pot(), 9);
        CHECK.due("11 sound", x.isSound(), true);
        CHECK.refused("11 none is up", Leagues.STATE, Leagues::ready, y -> y.knock());
        CHECK.refused("11 sold already", Leagues.STATE, Leagues::sold, y -> y.knock());
        CHECK.refused("11 the draft is over", Leagues.STATE, Leagues::drafted, y -> y.knock());
    }

    private static void knockWithoutRoom() {
        DraftLeague x = Leagues.running();
        x.setBench(0);
        for (int position = 0; position < 4; position++) {
            x.setPlaces(position, 0);
        }
        CHECK.due("11 without room", x.knock(), 0);
        CHECK.due("11 without room, size", x.size(0), 1);
    }

    private static void turnOf() {
        CHECK.due("12 first", Leagues.ready().turnOf(), 0);
        CHECK.due("12 behind five", Leagues.sold().turnOf(), 2);
        CHECK.refused("12 draft over", Leagues.STATE, Leagues::drafted, y -> y.turnOf());
        CHECK.refused("12 a player is up", Leagues.STATE, Leagues::running, y -> y.turnOf());
        CHECK.refused("12 no room", Leagues.ELEMENT, DraftTest::noRoom, y -> y.turnOf());
        CHECK.refused("12 no team", Leagues.ELEMENT, Leagues::empty, y -> y.turnOf());
        CHECK.refused("12 over ahead of no room", Leagues.STATE, ended(DraftTest::noRoom), y -> y.turnOf());
        CHECK.refused("12 up ahead of no room", Leagues.STATE, DraftTest::upWithoutRoom, y -> y.turnOf());
    }

    private static DraftLeague upWithoutRoom() {
        DraftLeague x = onlyTheLastHasRoom();
        x.setPlaces(0, 0);
        return x;
    }

    private static Supplier<DraftLeague> ended(Supplier<DraftLeague> setting) {
        return () -> {
            DraftLeague x = setting.get();
            x.endDraft();
            return x;
        };
    }

    private static void turnGoesRound() {
        DraftLeague x = Leagues.plain(3, 50, 8);
        Leagues.onePlace(x);
        x.nominate(0, 0, 2);
        x.bid(1, 3);
        x.knock();
        CHECK.due("12 passes who has no room", x.turnOf(), 2);
        x.nominate(2, 1, 2);
        x.bid(0, 3);
        x.knock();
        CHECK.due("12 around", x.turnOf(), 2);
        x.setBench(1);
        CHECK.due("12 from the team behind, not from the last buyer", x.turnOf(), 0);
        x.nominate(0, 2, 2);
        x.bid(2, 3);
        x.knock();
        CHECK.due("12 behind who nominated", x.turnOf(), 1);
    }

    private static void endDraft() {
        CHECK.due("13 all free", Leagues.ready().endDraft(), 7);
        CHECK.due("13 some free", Leagues.sold().endDraft(), 2);
        CHECK.due("13 without room", noRoom().endDraft(), 4);
        CHECK.refused("13 over", Leagues.STATE, Leagues::drafted, y -> y.endDraft());
        CHECK.refused("13 a player is up", Leagues.STATE, Leagues::running, y -> y.endDraft());
    }

    private static void owners() {
        DraftLeague x = Leagues.sold();
        CHECK.due("14 owner", x.ownerOf(4), 1);
        CHECK.due("14 free", x.ownerOf(5), -1);
        CHECK.due("14 up is free", Leagues.running().ownerOf(0), -1);
        CHECK.due("15 paid", x.paidFor(4), 9);
        CHECK.refused("14 no player", Leagues.INDEX, Leagues::sold, y -> y.ownerOf(7));
        CHECK.refused("14 player -1", Leagues.INDEX, Leagues::sold, y -> y.ownerOf(-1));
        CHECK.refused("15 no player", Leagues.INDEX, Leagues::sold, y -> y.paidFor(7));
        CHECK.refused("15 player -1", Leagues.INDEX, Leagues::sold, y -> y.paidFor(-1));
        CHECK.refused("15 free", Leagues.ELEMENT, Leagues::sold, y -> y.paidFor(5));
        CHECK.refused("15 up is free", Leagues.ELEMENT, Leagues::running, y -> y.paidFor(0));
    }

    private static void moneyAndSize() {
        DraftLeague x = Leagues.sold();
        CHECK.due("16 money", x.money(0), 37);
        CHECK.due("16 money", x.money(2), 43);
        CHECK.due("17 size", x.size(0), 2);
        CHECK.due("17 size", x.size(2), 1);
        CHECK.due("17 size 0", Leagues.ready().size(1), 0);
        CHECK.refused("16 no team", Leagues.INDEX, Leagues::sold, y -> y.money(3));
        CHECK.refused("16 team -1", Leagues.INDEX, Leagues::sold, y -> y.money(-1));
        CHECK.refused("17 no team", Leagues.INDEX, Leagues::sold, y -> y.size(3));
        CHECK.refused("17 team -1", Leagues.INDEX, Leagues::sold, y -> y.size(-1));
    }
}
