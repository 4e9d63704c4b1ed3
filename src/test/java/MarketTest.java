/** Promises 18 to 22: claims and trades, and how the end of a week settles them. */
public final class MarketTest {
    private static final Check CHECK = new Check();

    public static void main(String[] args) {
        claim();
        claimRefused();
        claimsByAmount();
        claimsByRank();
        claimsByOrder();
        claimsOfWhoRankedLower();
        claimsThatFail();
        claimsBehindTrades();
        offer();
        offerRefused();
        accept();
        veto();
        vetoNeedsMoreThanHalf();
        tradeDone();
        tradeVoid();
        tradesInTheirOrder();
        CHECK.finish();
    }

    private static void claim() {
        DraftLeague x = Leagues.drafted();
        CHECK.due("18 first", x.claim(0, 5, -1, 7), 1);
        CHECK.due("18 again", x.claim(0, 5, 3, 0), 2);
        CHECK.due("18 all its money", x.claim(2, 6, 2, 43), 3);
        x.endWeek();
        CHECK.due("18 claimed", x.ownerOf(5), 0);
        CHECK.due("18 paid", x.paidFor(5), 7);
        CHECK.due("18 money", x.money(0), 30);
        CHECK.due("18 pot", x.pot(), 35 + 7 + 43);
        CHECK.due("18 for another", x.ownerOf(6), 2);
        CHECK.due("18 the one who goes is free", x.ownerOf(2), -1);
        CHECK.due("18 money is gone", x.money(2), 0);
        CHECK.due("18 a claim that failed keeps its own", x.ownerOf(3), 0);
        CHECK.due("18 all claims are gone", x.claim(1, 2, -1, 1), 1);
        CHECK.due("18 sound", x.isSound(), true);
        CHECK.due("18 the week ahead keeps its roster", x.score(0, 2), 0);
        CHECK.due("18 who was there fills", x.fills(0, 2, 2), 0);
        CHECK.due("18 who is there fills", x.fills(1, 2, 6), 0);
    }

    private static void claimRefused() {
        CHECK.refused("18 no team", Leagues.INDEX, Leagues::drafted, y -> y.claim(3, 5, -1, 0));
        CHECK.refused("18 team -1", Leagues.INDEX, Leagues::drafted, y -> y.claim(-1, 5, -1, 0));
        CHECK.refused("18 no player", Leagues.INDEX, Leagues::sold, y -> y.claim(0, 7, -1, 0));
        CHECK.refused("18 player -1", Leagues.INDEX, Leagues::drafted, y -> y.claim(0, -1, -1, 0));
        CHECK.refused("18 out 7", Leagues.INDEX, Leagues::drafted, y -> y.claim(0, 5, 7, 0));
        CHECK.refused("18 out -2", Leagues.INDEX, Leagues::drafted, y -> y.claim(0, 5, -2, 0));
        CHECK.refused("18 draft not over", Leagues.STATE, Leagues::sold, y -> y.claim(0, 0, -1, -1));
        CHECK.refused("18 all weeks over", Leagues.STATE, () -> Leagues.weeksOver(20), y -> y.claim(0, 5, -1, 1));
        CHECK.due("18 in the last week", Leagues.weeksOver(19).claim(0, 5, -1, 1), 1);
        CHECK.refused("18 40 claims", Leagues.STATE, MarketTest::manyClaims, y -> y.claim(0, 5, -1, 1));
        CHECK.refused("18 40 claims first", Leagues.STATE, MarketTest::manyClaims, y -> y.claim(0, 0, -1, -1));
        CHECK.refused("18 not free", Leagues.UNSUPPORTED, Leagues::drafted, y -> y.claim(0, 1, -1, -1));
        CHECK.refused("18 its own", Leagues.UNSUPPORTED, Leagues::drafted, y -> y.claim(0, 0, 3, 1));
        CHECK.refused("18 out of another", Leagues.UNSUPPORTED, Leagues::drafted, y -> y.claim(0, 5, 1, 99));
        CHECK.refused("18 out is free", Leagues.UNSUPPORTED, Leagues::drafted, y -> y.claim(0, 5, 6, 1));
        CHECK.refused("18 less than 0", Leagues.ARGUMENT, Leagues::drafted, y -> y.claim(0, 5, 0, -1));
        CHECK.refused("18 more than its money", Leagues.ARGUMENT, Leagues::drafted, y -> y.claim(0, 5, 0, 38));
    }

    private static DraftLeague manyClaims() {
        DraftLeague x = Leagues.drafted();
        for (int claim = 1; claim <= 40; claim++) {
            CHECK.due("18 claims", x.claim(0, 5, -1, 1), claim);
        }
        return x;
    }

    private static void claimsByAmount() {
        DraftLeague x = Leagues.drafted();
        x.claim(2, 5, -1, 3);
        x.claim(0, 5, -1, 4);
        x.claim(1, 5, -1, 2);
        x.endWeek();
        CHECK.due("18 the greatest amount", x.ownerOf(5), 0);
        CHECK.due("18 others pay nothing", x.money(2), 43);
    }

    /** Behind the week 0 the ranks are 0, 2, 1: team 0 won, team 2 has the score 8, team 1 has 4. */
    private static DraftLeague ranksToBe() {
        DraftLeague x = Leagues.drafted();
        x.did(0, 0, 0, 5);
        x.did(0, 1, 0, 1);
        x.did(0, 2, 0, 2);
        return x;
    }

    private static void claimsByRank() {
        DraftLeague x = ranksToBe();
        x.claim(0, 5, -1, 3);
        x.claim(2, 5, -1, 3);
        x.claim(1, 5, -1, 3);
        x.endWeek();
        CHECK.due("18 the worst rank behind this week", x.ownerOf(5), 1);
        DraftLeague y = Leagues.drafted();
        y.claim(2, 5, -1, 3);
        y.claim(1, 5, -1, 3);
        y.endWeek();
        CHECK.due("18 of equals the greater number ranks worse", y.ownerOf(5), 2);
    }

    private static void claimsByOrder() {
        DraftLeague x = Leagues.drafted();
        x.claim(0, 5, 3, 2);
        x.claim(0, 5, 0, 2);
        x.claim(1, 6, -1, 2);
        x.endWeek();
        CHECK.due("18 the claim made first", x.ownerOf(3), -1);
        CHECK.due("18 the claim made later", x.ownerOf(0), 0);
        CHECK.due("18 another player", x.ownerOf(6), 1);
    }

    /** A rank is looked at once: the first claim of a week changes nothing for the next ones. */
    private static void claimsOfWhoRankedLower() {
        DraftLeague x = ranksToBe();
        x.claim(2, 6, -1, 3);
        x.claim(1, 5, -1, 3);
        x.claim(0, 5, -1, 3);
        x.claim(1, 6, -1, 3);
        x.endWeek();
        CHECK.due("18 first claim of the worst", x.ownerOf(5), 1);
        CHECK.due("18 second claim of the worst", x.ownerOf(6), 1);
    }

    private static void claimsThatFail() {
        DraftLeague x = Leagues.drafted();
        x.claim(0, 5, -1, 30);
        x.claim(0, 6, -1, 20);
        x.endWeek();
        CHECK.due("18 money for one", x.ownerOf(5), 0);
        CHECK.due("18 no money for both", x.ownerOf(6), -1);
        DraftLeague out = Leagues.drafted();
        out.claim(0, 5, 3, 5);
        out.claim(0, 6, 3, 4);
        out.endWeek();
        CHECK.due("18 one goes once", out.ownerOf(6), -1);
        DraftLeague full = Leagues.drafted();
        full.setBench(0);
        for (int position = 2; position < 4; position++) {
            full.setPlaces(position, 0);
        }
        full.claim(0, 5, -1, 5);
        full.claim(2, 6, -1, 3);
        full.claim(2, 6, 2, 2);
        full.claim(0, 5, 3, 1);
        full.endWeek();
        CHECK.due("18 no room without one who goes", full.paidFor(5), 1);
        CHECK.due("18 room", full.paidFor(6), 3);
        CHECK.due("18 room without one who goes", full.size(2), 2);
    }

    private static void claimsBehindTrades() {
        DraftLeague x = Leagues.drafted();
        x.claim(0, 5, 3, 5);
        x.claim(0, 6, 0, 30);
        x.accept(x.offer(0, 3, 1, 10));
        x.endWeek();
        CHECK.due("18 the one who goes was traded", x.ownerOf(5), -1);
        CHECK.due("18 the money went with the trade", x.ownerOf(6), -1);
        CHECK.due("18 the trade is done", x.ownerOf(3), 1);
    }

    private static void offer() {
        DraftLeague x = Leagues.drafted();
        CHECK.due("19 first", x.offer(0, 0, 1, 37), 0);
        CHECK.due("19 second", x.offer(0, 0, 1, -35), 1);
        CHECK.due("22 open", x.offerState(0), 'o');
        CHECK.due("19 moves nothing", x.ownerOf(0), 0);
        for (int offer = 2; offer < 30; offer++) {
            CHECK.due("19 number", x.offer(1, 1, 2, 0), offer);
        }
    }

    private static void offerRefused() {
        CHECK.refused("19 no team", Leagues.INDEX, Leagues::drafted, y -> y.offer(3, 0, 1, 0));
        CHECK.refused("19 team -1", Leagues.INDEX, Leagues::drafted, y -> y.offer(-1, 0, 1, 0));
        CHECK.refused("19 no player", Leagues.INDEX, Leagues::drafted, y -> y.offer(0, 7, 1, 0));
        CHECK.refused("19 player -1", Leagues.INDEX, Leagues::drafted, y -> y.offer(0, -1, 1, 0));
        CHECK.refused("19 no other", Leagues.INDEX, Leagues::drafted, y -> y.offer(0, 0, 7, 0));
        CHECK.refused("19 other -1", Leagues.INDEX, Leagues::sold, y -> y.offer(0, 1, -1, 0));
        CHECK.refused("19 not its own", Leagues.UNSUPPORTED, Leagues::drafted, y -> y.offer(0, 1, 2, 99));
        CHECK.refused("19 a free one", Leagues.UNSUPPORTED, Leagues::drafted, y -> y.offer(0, 5, 2, 0));
        CHECK.refused("19 both its own", Leagues.UNSUPPORTED, Leagues::drafted, y -> y.offer(0, 0, 3, 0));
        CHECK.refused("19 the same", Leagues.UNSUPPORTED, Leagues::drafted, y -> y.offer(0, 0, 0, 0));
        CHECK.refused("19 the other is free", Leagues.UNSUPPORTED, Leagues::drafted, y -> y.offer(0, 0, 5, 0));
        CHECK.refused("19 owners first", Leagues.UNSUPPORTED, Leagues::sold, y -> y.offer(0, 0, 5, 99));
        CHECK.refused("19 draft not over", Leagues.STATE, Leagues::sold, y -> y.offer(0, 0, 1, 99));
        CHECK.refused("19 30 offers", Leagues.STATE, MarketTest::manyOffers, y -> y.offer(0, 0, 1, 99));
        CHECK.refused("19 too much", Leagues.ARGUMENT, Leagues::drafted, y -> y.offer(0, 0, 1, 38));
        CHECK.refused("19 asks too much", Leagues.ARGUMENT, Leagues::drafted, y -> y.offer(0, 0, 1, -36));
        CHECK.refused("19 far too much", Leagues.ARGUMENT, Leagues::drafted,
                y -> y.offer(0, 0, 1, Integer.MAX_VALUE));
        CHECK.refused("19 asks far too much", Leagues.ARGUMENT, Leagues::drafted,
                y -> y.offer(0, 0, 1, Integer.MIN_VALUE));
    }

    /** Offers count when they are over, too. */
    private static DraftLeague manyOffers() {
        DraftLeague x = Leagues.drafted();
        for (int offer = 0; offer < 30; offer++) {
            x.offer(1, 1, 2, 0);
        }
        x.accept(0);
        x.endWeek();
        x.accept(1);
        x.endWeek();
        return x;
    }

    private static void accept() {
        DraftLeague x = Leagues.offered();
        CHECK.due("20 waits", x.accept(0), true);
        CHECK.due("22 waits", x.offerState(0), 'w');
        CHECK.due("20 moves nothing yet", x.ownerOf(0), 0);
        DraftLeague late = Leagues.weeksOver(20);
        CHECK.due("20 behind all weeks", late.accept(late.offer(0, 0, 1, 0)), true);
        CHECK.due("20 waits for ever", late.offerState(0), 'w');
        DraftLeague open = Leagues.offered();
        open.endWeek();
        CHECK.due("20 an open offer stays", open.offerState(0), 'o');
        CHECK.due("20 a week later", open.accept(0), true);
        CHECK.refused("20 no offer", Leagues.INDEX, Leagues::offered, y -> y.accept(1));
        CHECK.refused("20 offer -1", Leagues.INDEX, Leagues::offered, y -> y.accept(-1));
        CHECK.refused("20 accepted", Leagues.UNSUPPORTED, Leagues::accepted, y -> y.accept(0));
        CHECK.refused("20 over", Leagues.UNSUPPORTED, Leagues::traded, y -> y.accept(0));
        CHECK.refused("22 no offer", Leagues.INDEX, Leagues::offered, y -> y.offerState(1));
        CHECK.refused("22 offer -1", Leagues.INDEX, Leagues::offered, y -> y.offerState(-1));
    }

    private static void veto() {
        CHECK.due("21 one vote", Leagues.accepted().veto(0, 2), 1);
        CHECK.refused("21 no offer", Leagues.INDEX, Leagues::accepted, y -> y.veto(1, 2));
        CHECK.refused("21 offer -1", Leagues.INDEX, Leagues::accepted, y -> y.veto(-1, 2));
        CHECK.refused("21 no team", Leagues.INDEX, Leagues::offered, y -> y.veto(0, 3));
        CHECK.refused("21 team -1", Leagues.INDEX, Leagues::offered, y -> y.veto(0, -1));
        CHECK.refused("21 open", Leagues.UNSUPPORTED, Leagues::offered, y -> y.veto(0, 2));
        CHECK.refused("21 over", Leagues.UNSUPPORTED, Leagues::traded, y -> y.veto(0, 2));
        CHECK.refused("21 who offered", Leagues.UNSUPPORTED, Leagues::accepted, y -> y.veto(0, 0));
        CHECK.refused("21 who was asked", Leagues.UNSUPPORTED, Leagues::accepted, y -> y.veto(0, 1));
        CHECK.refused("21 twice", Leagues.UNSUPPORTED, Leagues::votedAgainst, y -> y.veto(0, 2));
        DraftLeague x = Leagues.votedAgainst();
        x.endWeek();
        CHECK.due("22 vetoed", x.offerState(0), 'v');
        CHECK.due("21 stays", x.ownerOf(0), 0);
        CHECK.due("21 pays nothing", x.money(0), 37);
    }

    /** With six teams, four have no part in a trade: two votes are half of them, three are more. */
    private static void vetoNeedsMoreThanHalf() {
        for (int votes = 0; votes <= 4; votes++) {
            DraftLeague x = Leagues.plain(6, 20, 8);
            for (int player = 0; player < 6; player++) {
                x.nominate(player, player, 2);
                x.knock();
            }
            x.endDraft();
            x.accept(x.offer(1, 1, 4, 0));
            int[] judges = {5, 0, 3, 2};
            for (int vote = 0; vote < votes; vote++) {
                CHECK.due("21 votes", x.veto(0, judges[vote]), vote + 1);
            }
            x.endWeek();
            CHECK.due("22 with votes " + votes, x.offerState(0), votes > 2 ? 'v' : 'd');
        }
        DraftLeague two = Leagues.plain(2, 20, 2);
        two.nominate(0, 0, 2);
        two.knock();
        two.nominate(1, 1, 2);
        two.knock();
        two.endDraft();
        two.accept(two.offer(0, 0, 1, 0));
        two.endWeek();
        CHECK.due("22 none to vote", two.offerState(0), 'd');
    }

    private static void tradeDone() {
        DraftLeague x = Leagues.accepted();
        x.setPositions(0, 4);
        x.endWeek();
        CHECK.due("22 done", x.offerState(0), 'd');
        CHECK.due("20 given", x.ownerOf(0), 1);
        CHECK.due("20 got", x.ownerOf(1), 0);
        CHECK.due("20 paid", x.money(0), 33);
        CHECK.due("20 was paid", x.money(1), 39);
        CHECK.due("20 pot", x.pot(), 35);
        CHECK.due("20 the price goes with it", x.paidFor(0), 5);
        CHECK.due("20 both prices", x.paidFor(1), 6);
        CHECK.due("20 the positions go with it", x.fills(1, 1, 0), 2);
        CHECK.due("20 the week ahead keeps its roster", x.fills(0, 0, 0), 2);
        CHECK.due("20 sound", x.isSound(), true);
        DraftLeague y = Leagues.drafted();
        y.accept(y.offer(2, 2, 4, -35));
        y.endWeek();
        CHECK.due("20 gets all", y.money(2), 78);
        CHECK.due("20 gives all", y.money(1), 0);
    }

    private static void tradeVoid() {
        DraftLeague x = Leagues.drafted();
        x.accept(x.offer(0, 0, 1, 20));
        x.accept(x.offer(0, 3, 2, 20));
        x.accept(x.offer(2, 2, 1, 0));
        x.accept(x.offer(1, 1, 2, 0));
        x.endWeek();
        CHECK.due("22 the first is done", x.offerState(0), 'd');
        CHECK.due("22 no money any more", x.offerState(1), 'x');
        CHECK.due("22 the other is another's", x.offerState(2), 'x');
        CHECK.due("22 its own is another's", x.offerState(3), 'x');
        DraftLeague y = Leagues.drafted();
        y.offer(0, 0, 1, -30);
        y.accept(0);
        y.accept(y.offer(2, 2, 4, -30));
        y.endWeek();
        CHECK.due("22 the other has no money any more", y.offerState(1), 'x');
        CHECK.due("22 nothing went over", y.money(2), 43);
        DraftLeague both = Leagues.votedAgainst();
        both.accept(both.offer(0, 0, 2, 0));
        both.endWeek();
        CHECK.due("22 the veto is looked at first", both.offerState(0), 'v');
        CHECK.due("22 a vetoed one is in no one's way", both.offerState(1), 'd');
    }

    private static void tradesInTheirOrder() {
        DraftLeague x = Leagues.drafted();
        x.offer(0, 0, 1, 0);
        x.offer(0, 0, 2, 0);
        x.accept(1);
        x.accept(0);
        x.endWeek();
        CHECK.due("22 the lower number first", x.offerState(0), 'd');
        CHECK.due("22 then the other", x.offerState(1), 'x');
        DraftLeague money = Leagues.drafted();
        money.accept(money.offer(0, 0, 1, -35));
        money.accept(money.offer(0, 3, 2, 37));
        money.endWeek();
        CHECK.due("22 both are done", money.offerState(1), 'd');
        CHECK.due("22 money of both", money.money(0), 35);
    }
}
