/** The sentences of "Terms" on the end of a week: trades, claims, the table and collusion. */
public final class MarketTermsTest {
    private static final Check CHECK = new Check();

    public static void main(String[] args) {
        overAheadOfTradesAndClaims();
        tradesAheadOfClaims();
        tradesByRisingNumbers();
        onlyTradesThatWait();
        moreThanHalf();
        votesOfThisTrade();
        vetoedTradesMoveNothing();
        bothStillOfTheseTeams();
        backAgainIsStill();
        lessMoneyThanItPays();
        pricesAndPositionsGoWithThem();
        claimsByFallingAmounts();
        claimsByWorseRank();
        rankBehindThisWeek();
        rankAheadOfAllClaims();
        claimsByTheirOrder();
        claimsOfALaterWeek();
        claimedIsFree();
        claimHasTheMoney();
        whoGoesIsStillItsOwn();
        claimHasRoom();
        claimMovesBoth();
        claimsAreGone();
        matchesGiveTwoOrOne();
        rankBySumsThenScoresThenNumbers();
        collusionByItsBounds();
        collusionByMoney();
        collusionByAllWeeks();
        CHECK.finish();
    }

    /** So many teams, each with the players of its number and of its number and the count of teams; money 50 - 4. */
    private static DraftLeague teams(int count) {
        DraftLeague x = Leagues.plain(count, 50, 2 * count + 2);
        for (int player = 0; player < 2 * count; player++) {
            x.nominate(player % count, player, 2);
            x.knock();
        }
        x.endDraft();
        return x;
    }

    // ---- the end of a week

    private static void overAheadOfTradesAndClaims() {
        DraftLeague x = Leagues.accepted();
        x.claim(2, 5, -1, 1);
        x.did(0, 0, 0, 5);
        x.did(0, 5, 0, 5);
        x.endWeek();
        CHECK.due("End: the trade is for the next week", x.score(0, 0), 20);
        CHECK.due("End: not for this one", x.score(0, 1), 0);
        CHECK.due("End: nor is the claim", x.score(0, 2), 0);
    }

    private static void tradesAheadOfClaims() {
        DraftLeague x = Leagues.drafted();
        x.claim(0, 5, -1, 37);
        x.claim(1, 6, 1, 1);
        x.accept(x.offer(0, 0, 1, 1));
        x.endWeek();
        CHECK.due("End: the money has gone with the trade", x.ownerOf(5), -1);
        CHECK.due("End: the one who goes has gone with it", x.ownerOf(6), -1);
        DraftLeague y = Leagues.drafted();
        y.claim(1, 5, -1, 35);
        y.accept(y.offer(1, 1, 0, -2));
        y.endWeek();
        CHECK.due("End: the trade is done", y.offerState(0), 'd');
        CHECK.due("End: the claim pays behind it", y.money(1), 2);
        DraftLeague later = Leagues.drafted();
        later.claim(0, 5, 0, 37);
        later.accept(later.offer(2, 2, 0, 0));
        later.endWeek();
        CHECK.due("End: a claim takes nothing from a trade", later.offerState(0), 'd');
    }

    // ---- trades

    private static void tradesByRisingNumbers() {
        DraftLeague x = Leagues.drafted();
        for (int offer = 0; offer < 3; offer++) {
            x.offer(0, 0, offer == 1 ? 2 : 1, 0);
        }
        x.accept(2);
        x.accept(1);
        x.accept(0);
        x.endWeek();
        CHECK.due("Trades: 0 first", x.offerState(0), 'd');
        CHECK.due("Trades: then 1", x.offerState(1), 'x');
        CHECK.due("Trades: then 2", x.offerState(2), 'x');
        DraftLeague y = Leagues.drafted();
        y.accept(y.offer(0, 0, 1, -35));
        y.accept(y.offer(1, 4, 2, 0));
        y.accept(y.offer(0, 3, 2, 37));
        y.endWeek();
        CHECK.due("Trades: the second needs no money", y.offerState(1), 'd');
        CHECK.due("Trades: the third comes too late for the player", y.offerState(2), 'x');
    }

    private static void onlyTradesThatWait() {
        DraftLeague x = Leagues.drafted();
        x.offer(0, 0, 1, 0);
        x.accept(x.offer(0, 3, 2, 0));
        x.endWeek();
        CHECK.due("Trades: an open one stays open", x.offerState(0), 'o');
        CHECK.due("Trades: one that waits is done", x.offerState(1), 'd');
        x.endWeek();
        CHECK.due("Trades: still open", x.offerState(0), 'o');
        CHECK.due("Trades: what is done is not done again", x.ownerOf(3), 2);
        x.accept(0);
        CHECK.due("Trades: accepted later", x.offerState(0), 'w');
        x.endWeek();
        CHECK.due("Trades: done later", x.offerState(0), 'd');
    }

    /** Of so many teams, two have their part in the trade: more than half of the others have to vote. */
    private static void moreThanHalf() {
        int[] needed = {1, 1, 1, 1, 2, 2, 3, 3, 4};
        for (int count = 2; count <= 8; count++) {
            for (int votes = 0; votes <= count - 2; votes++) {
                DraftLeague x = teams(count);
                x.accept(x.offer(1, 1, 0, 0));
                for (int vote = 0; vote < votes; vote++) {
                    CHECK.due("21 how many have", x.veto(0, count - 1 - vote), vote + 1);
                }
                CHECK.due("Trades: it waits with all votes", x.offerState(0), 'w');
                x.endWeek();
                CHECK.due("Trades: votes " + votes + " of " + (count - 2), x.offerState(0),
                        votes >= needed[count] ? 'v' : 'd');
            }
        }
    }

    private static void votesOfThisTrade() {
        DraftLeague x = teams(4);
        x.accept(x.offer(0, 0, 1, 0));
        x.accept(x.offer(0, 4, 1, 0));
        CHECK.due("21 of the first", x.veto(0, 2), 1);
        CHECK.due("21 of the second", x.veto(1, 3), 1);
        CHECK.due("21 both of the first", x.veto(0, 3), 2);
        x.endWeek();
        CHECK.due("Trades: the first is vetoed", x.offerState(0), 'v');
        CHECK.due("Trades: the second, with half of the votes, is done", x.offerState(1), 'd');
    }

    private static void vetoedTradesMoveNothing() {
        DraftLeague x = Leagues.votedAgainst();
        x.endWeek();
        CHECK.due("Trades: his own", x.ownerOf(0), 0);
        CHECK.due("Trades: the other's own", x.ownerOf(1), 1);
        CHECK.due("Trades: no money", x.money(0), 37);
        CHECK.due("Trades: no collusion", x.suspects(), 0);
        x.endWeek();
        CHECK.due("Trades: vetoed for ever", x.offerState(0), 'v');
    }

    private static void bothStillOfTheseTeams() {
        DraftLeague gone = Leagues.drafted();
        gone.offer(0, 0, 1, 0);
        gone.claim(0, 5, 0, 1);
        gone.endWeek();
        CHECK.due("20 it waits though he has gone", gone.accept(0), true);
        gone.endWeek();
        CHECK.due("Trades: his own is free", gone.offerState(0), 'x');
        CHECK.due("Trades: void moves nothing", gone.ownerOf(1), 1);
        DraftLeague other = Leagues.drafted();
        other.offer(0, 0, 1, 3);
        other.claim(1, 5, 1, 1);
        other.endWeek();
        other.accept(0);
        other.endWeek();
        CHECK.due("Trades: the other one is free", other.offerState(0), 'x');
        CHECK.due("Trades: void pays nothing", other.money(0), 37);
        DraftLeague swapped = Leagues.drafted();
        swapped.offer(0, 0, 1, 0);
        swapped.offer(1, 1, 0, 0);
        swapped.accept(0);
        swapped.accept(1);
        swapped.endWeek();
        CHECK.due("Trades: each is of the other team", swapped.offerState(1), 'x');
        CHECK.due("Trades: void is for ever", swapped.ownerOf(0), 1);
    }

    private static void backAgainIsStill() {
        DraftLeague x = Leagues.drafted();
        x.offer(0, 0, 1, 0);
        x.claim(0, 5, 0, 1);
        x.endWeek();
        x.claim(0, 0, 5, 1);
        x.endWeek();
        x.accept(0);
        x.endWeek();
        CHECK.due("Trades: of its team again", x.offerState(0), 'd');
    }

    /** Team 0 has 37, and team 1 has 35: what a claim takes of it is missing for a trade of the next week. */
    private static void lessMoneyThanItPays() {
        for (int claimed = 3; claimed <= 5; claimed++) {
            DraftLeague pays = Leagues.drafted();
            pays.offer(0, 0, 1, 33);
            pays.claim(0, 5, -1, claimed);
            pays.endWeek();
            pays.accept(0);
            pays.endWeek();
            CHECK.due("Trades: pays 33 of " + (37 - claimed), pays.offerState(0), claimed > 4 ? 'x' : 'd');
            DraftLeague paid = Leagues.drafted();
            paid.offer(0, 0, 1, -31);
            paid.claim(1, 5, -1, claimed);
            paid.endWeek();
            paid.accept(0);
            paid.endWeek();
            CHECK.due("Trades: the other pays 31 of " + (35 - claimed), paid.offerState(0), claimed > 4 ? 'x' : 'd');
            CHECK.due("Trades: money goes over once", paid.money(0), claimed > 4 ? 37 : 68);
        }
    }

    private static void pricesAndPositionsGoWithThem() {
        DraftLeague x = Leagues.accepted();
        x.setPositions(0, 2);
        x.setPositions(1, 8);
        x.endWeek();
        CHECK.due("Trades: the price of his own", x.paidFor(0), 5);
        CHECK.due("Trades: the price of the other", x.paidFor(1), 6);
        CHECK.due("Trades: the positions of his own", x.fills(1, 1, 0), 1);
        CHECK.due("Trades: the positions of the other", x.fills(1, 0, 1), 3);
        CHECK.due("Trades: the money", x.money(0), 33);
        CHECK.due("Trades: the money", x.money(1), 39);
        CHECK.due("Trades: nothing for the pot", x.pot(), 35);
    }

    // ---- claims

    private static void claimsByFallingAmounts() {
        DraftLeague x = Leagues.drafted();
        x.claim(2, 5, -1, 3);
        x.claim(1, 5, -1, 5);
        x.claim(0, 5, -1, 4);
        x.endWeek();
        CHECK.due("Claims: the greatest amount", x.paidFor(5), 5);
        DraftLeague apart = Leagues.drafted();
        apart.claim(2, 5, -1, 4);
        apart.claim(0, 5, -1, 5);
        apart.endWeek();
        CHECK.due("Claims: 1 more is ahead of a worse rank", apart.ownerOf(5), 0);
        DraftLeague nothing = Leagues.drafted();
        nothing.claim(2, 5, -1, 0);
        nothing.claim(0, 5, -1, 1);
        nothing.endWeek();
        CHECK.due("Claims: 1 is more than none", nothing.ownerOf(5), 0);
    }

    private static void claimsByWorseRank() {
        DraftLeague x = Leagues.drafted();
        for (int team = 0; team < 3; team++) {
            x.claim(team, 5, -1, 3);
        }
        x.endWeek();
        CHECK.due("Claims: without scores the last number", x.ownerOf(5), 2);
        DraftLeague y = Leagues.drafted();
        y.did(0, 2, 0, 3);
        y.did(0, 1, 0, 2);
        y.claim(2, 5, -1, 3);
        y.claim(1, 5, -1, 3);
        y.claim(0, 5, -1, 3);
        y.endWeek();
        CHECK.due("Claims: the least score", y.ownerOf(5), 0);
        DraftLeague match = Leagues.drafted();
        match.did(0, 2, 0, 3);
        match.did(0, 1, 0, 2);
        match.meet(0, 0, 2);
        match.did(0, 0, 0, 4);
        match.meet(1, 0, 2);
        for (int team = 0; team < 3; team++) {
            match.claim(team, 5, -1, 3);
        }
        match.endWeek();
        CHECK.due("Claims: no match won, and the least score", match.ownerOf(5), 1);
    }

    /** The week that ends counts for the rank at once, and what is told of the next one doesn't. */
    private static void rankBehindThisWeek() {
        DraftLeague x = Leagues.drafted();
        x.did(0, 0, 0, 1);
        x.endWeek();
        CHECK.due("Claims: ahead of this week the first", x.rank(0), 1);
        x.did(1, 1, 0, 3);
        x.did(1, 2, 0, 2);
        x.did(2, 0, 0, 99);
        for (int team = 0; team < 3; team++) {
            x.claim(team, 5, -1, 3);
        }
        x.endWeek();
        CHECK.due("Claims: behind this week the last", x.ownerOf(5), 0);
    }

    /** What the first claim moves is not asked for by the next one's rank; the trades change no rank either. */
    private static void rankAheadOfAllClaims() {
        DraftLeague x = Leagues.drafted();
        x.did(0, 0, 0, 1);
        x.did(0, 1, 0, 1);
        x.claim(0, 5, -1, 3);
        x.claim(1, 5, -1, 3);
        x.claim(0, 6, -1, 3);
        x.claim(1, 6, -1, 3);
        x.accept(x.offer(0, 0, 1, 0));
        x.endWeek();
        CHECK.due("Claims: the worse one", x.ownerOf(5), 1);
        CHECK.due("Claims: the worse one again", x.ownerOf(6), 1);
    }

    private static void claimsByTheirOrder() {
        DraftLeague x = Leagues.drafted();
        x.claim(0, 6, 3, 2);
        x.claim(0, 5, 3, 2);
        x.endWeek();
        CHECK.due("Claims: the first of equals", x.ownerOf(6), 0);
        CHECK.due("Claims: not the second", x.ownerOf(5), -1);
        DraftLeague many = Leagues.drafted();
        for (int claim = 0; claim < 39; claim++) {
            many.claim(0, 5 + claim % 2, 0, 2);
        }
        many.endWeek();
        CHECK.due("Claims: the first of many", many.ownerOf(5), 0);
        CHECK.due("Claims: none of the others", many.ownerOf(6), -1);
    }

    /** The order of a week with other claims has no part in it. */
    private static void claimsOfALaterWeek() {
        DraftLeague x = Leagues.drafted();
        x.claim(0, 5, -1, 1);
        x.claim(1, 5, -1, 3);
        x.claim(2, 5, -1, 2);
        x.endWeek();
        CHECK.due("Claims: of the first week", x.ownerOf(5), 1);
        x.claim(2, 6, -1, 2);
        x.endWeek();
        CHECK.due("Claims: the only one of a later week", x.ownerOf(6), 2);
    }

    private static void claimedIsFree() {
        DraftLeague x = Leagues.drafted();
        x.claim(0, 5, -1, 9);
        x.claim(1, 5, 1, 8);
        x.claim(0, 5, 0, 7);
        x.endWeek();
        CHECK.due("Claims: free for the first", x.ownerOf(5), 0);
        CHECK.due("Claims: paid once", x.money(0), 28);
        CHECK.due("Claims: the second pays nothing", x.money(1), 35);
        CHECK.due("Claims: the second keeps his own", x.ownerOf(1), 1);
        CHECK.due("Claims: his own is claimed by himself no more", x.ownerOf(0), 0);
    }

    private static void claimHasTheMoney() {
        DraftLeague x = Leagues.drafted();
        x.claim(0, 5, -1, 20);
        x.claim(0, 6, -1, 17);
        x.endWeek();
        CHECK.due("Claims: money for both", x.ownerOf(6), 0);
        CHECK.due("Claims: all its money", x.money(0), 0);
        DraftLeague y = Leagues.drafted();
        y.claim(0, 5, -1, 20);
        y.claim(0, 6, -1, 18);
        y.claim(1, 6, -1, 2);
        y.endWeek();
        CHECK.due("Claims: 1 too little for both, another gets", y.ownerOf(6), 1);
        CHECK.due("Claims: paid one", y.money(0), 17);
    }

    private static void whoGoesIsStillItsOwn() {
        DraftLeague x = Leagues.drafted();
        x.claim(0, 5, 3, 9);
        x.claim(0, 6, 3, 8);
        x.claim(1, 6, 4, 7);
        x.endWeek();
        CHECK.due("Claims: goes for the first", x.ownerOf(5), 0);
        CHECK.due("Claims: goes once", x.ownerOf(6), 1);
        CHECK.due("Claims: is free", x.ownerOf(3), -1);
        DraftLeague traded = Leagues.drafted();
        traded.claim(0, 5, 0, 9);
        traded.accept(traded.offer(0, 0, 1, 0));
        traded.endWeek();
        CHECK.due("Claims: gone with a trade", traded.ownerOf(5), -1);
        CHECK.due("Claims: he is another's", traded.ownerOf(0), 1);
        CHECK.due("Claims: nothing paid", traded.money(0), 37);
    }

    /** Each team has two players of three places: one claim has room, the second has not, with one who goes it has. */
    private static void claimHasRoom() {
        DraftLeague x = Leagues.drafted();
        x.setBench(0);
        x.setPlaces(3, 0);
        x.claim(0, 5, -1, 9);
        x.claim(0, 6, -1, 8);
        x.endWeek();
        CHECK.due("Claims: room for one", x.ownerOf(5), 0);
        CHECK.due("Claims: no room for two", x.ownerOf(6), -1);
        CHECK.due("Claims: no room, not paid", x.money(0), 28);
        x.claim(0, 6, 5, 4);
        x.endWeek();
        CHECK.due("Claims: one goes", x.ownerOf(6), 0);
        CHECK.due("Claims: the one who goes", x.ownerOf(5), -1);
        CHECK.due("Claims: as many as before", x.size(0), 3);
        x.setPlaces(3, 1);
        x.claim(0, 5, -1, 1);
        x.endWeek();
        CHECK.due("Claims: room again", x.ownerOf(5), 0);
        DraftLeague open = Leagues.drafted();
        open.setBench(0);
        open.setPlaces(2, 0);
        open.setPlaces(3, 0);
        open.claim(0, 5, -1, 9);
        open.claim(0, 6, 0, 8);
        open.setBench(1);
        open.endWeek();
        CHECK.due("Claims: room is asked for as the week ends", open.ownerOf(5), 0);
        CHECK.due("Claims: both", open.ownerOf(6), 0);
    }

    private static void claimMovesBoth() {
        DraftLeague x = Leagues.drafted();
        x.claim(1, 5, 4, 6);
        x.endWeek();
        CHECK.due("Claims: pays", x.money(1), 29);
        CHECK.due("Claims: into the pot", x.pot(), 41);
        CHECK.due("Claims: is its player", x.ownerOf(5), 1);
        CHECK.due("Claims: what was paid", x.paidFor(5), 6);
        CHECK.due("Claims: the one who goes is free", x.ownerOf(4), -1);
        CHECK.due("Claims: he can be claimed", x.claim(2, 4, -1, 1), 1);
        x.endWeek();
        CHECK.due("Claims: he was claimed", x.ownerOf(4), 2);
        CHECK.due("Claims: for another price", x.paidFor(4), 1);
        CHECK.due("Claims: sound", x.isSound(), true);
    }

    private static void claimsAreGone() {
        DraftLeague x = Leagues.drafted();
        x.claim(0, 5, -1, 9);
        CHECK.due("Claims: two", x.claim(1, 5, -1, 8), 2);
        x.endWeek();
        CHECK.due("Claims: counted from 1 again", x.claim(0, 6, 5, 0), 1);
        x.endWeek();
        CHECK.due("Claims: he is free again", x.ownerOf(5), -1);
        x.endWeek();
        CHECK.due("Claims: a claim that was not done is gone as well", x.ownerOf(5), -1);
        CHECK.due("Claims: and pays nothing", x.money(1), 35);
        CHECK.due("Claims: one that was done is not done again", x.money(0), 28);
    }

    // ---- the table

    private static void matchesGiveTwoOrOne() {
        DraftLeague x = Leagues.drafted();
        x.meet(0, 0, 1);
        x.did(0, 0, 1, 1);
        x.endWeek();
        CHECK.due("Table: 2 for 1 point more", x.wins(0), 2);
        CHECK.due("Table: none for 1 point less", x.wins(1), 0);
        CHECK.due("Table: none without a match", x.wins(2), 0);
        x.did(0, 1, 1, 1);
        CHECK.due("Table: 1 to each", x.wins(0), 1);
        CHECK.due("Table: 1 to each", x.wins(1), 1);
        x.did(0, 1, 1, 2);
        CHECK.due("Table: the other won", x.wins(0), 0);
        CHECK.due("Table: the other won", x.wins(1), 2);
    }

    private static void rankBySumsThenScoresThenNumbers() {
        DraftLeague x = Leagues.drafted();
        x.meet(0, 1, 2);
        x.did(0, 0, 0, 99);
        x.endWeek();
        CHECK.due("Table: a draw is ahead of all scores", x.rank(1), 1);
        CHECK.due("Table: equal in all, by numbers", x.rank(2), 2);
        CHECK.due("Table: no match is the last", x.rank(0), 3);
        x.did(0, 2, 1, 1);
        CHECK.due("Table: won", x.ranked(1), 2);
        CHECK.due("Table: by scores", x.ranked(2), 0);
        CHECK.due("Table: the last", x.ranked(3), 1);
        x.did(0, 0, 0, 0);
        CHECK.due("Table: by numbers again", x.ranked(2), 0);
        x.did(0, 2, 1, 0);
        x.did(0, 1, 1, 0);
        x.did(1, 2, 1, 1);
        CHECK.due("Table: the running week counts for nothing", x.rank(1), 1);
        x.endWeek();
        CHECK.due("Table: 1 point more", x.rank(2), 1);
        CHECK.due("Table: 1 point less", x.rank(1), 2);
    }

    // ---- collusion

    private static DraftLeague swapped(int amount) {
        DraftLeague x = Leagues.drafted();
        x.accept(x.offer(0, 0, 1, amount));
        x.endWeek();
        return x;
    }

    private static void collusionByItsBounds() {
        for (int points = 99; points <= 101; points++) {
            DraftLeague better = swapped(0);
            better.did(0, 1, 0, points / 4);
            better.did(0, 1, 1, points % 4);
            CHECK.due("Collusion: the value", better.tradeValue(0), points);
            CHECK.due("Collusion: the value " + points, better.suspects(), points > 100 ? 1 : 0);
            DraftLeague worse = swapped(0);
            worse.did(0, 0, 0, points / 4);
            worse.did(0, 0, 1, points % 4);
            CHECK.due("Collusion: the value", worse.tradeValue(0), -points);
            CHECK.due("Collusion: the value -" + points, worse.suspects(), points > 100 ? 1 : 0);
        }
    }

    private static void collusionByMoney() {
        CHECK.due("Collusion: pays 10", swapped(10).suspects(), 0);
        CHECK.due("Collusion: pays 11", swapped(11).suspects(), 1);
        CHECK.due("Collusion: gets 10", swapped(-10).suspects(), 0);
        CHECK.due("Collusion: gets 11", swapped(-11).suspects(), 1);
        CHECK.due("Collusion: 10 for each", swapped(11).tradeValue(0), -110);
        CHECK.due("Collusion: 10 for each", swapped(-11).tradeValue(0), 110);
        DraftLeague x = swapped(11);
        x.did(0, 1, 1, 9);
        CHECK.due("Collusion: 9 points for 11", x.suspects(), 1);
        x.did(0, 1, 1, 10);
        CHECK.due("Collusion: 10 points for 11", x.suspects(), 0);
    }

    private static void collusionByAllWeeks() {
        DraftLeague x = Leagues.drafted();
        x.did(0, 1, 0, 20);
        x.endWeek();
        x.accept(x.offer(0, 0, 1, 0));
        x.did(1, 1, 1, 15);
        x.endWeek();
        CHECK.due("Collusion: weeks ahead of the trade", x.tradeValue(0), 95);
        x.did(2, 1, 1, 6);
        CHECK.due("Collusion: not the running week", x.suspects(), 0);
        x.endWeek();
        CHECK.due("Collusion: weeks behind the trade", x.suspects(), 1);
        x.did(0, 1, 0, 19);
        CHECK.due("Collusion: as told now", x.suspects(), 0);
        x.setFinal(2);
        x.did(3, 0, 1, 99);
        x.did(3, 0, 0, 99);
        x.endWeek();
        CHECK.due("Collusion: the other way", x.tradeValue(0), 97 - 495);
        CHECK.due("Collusion: the other way", x.suspects(), 1);
    }
}
