/** Leagues that the tests begin with. */
final class Leagues {
    static final Class<IndexOutOfBoundsException> INDEX = IndexOutOfBoundsException.class;
    static final Class<IllegalArgumentException> ARGUMENT = IllegalArgumentException.class;
    static final Class<IllegalStateException> STATE = IllegalStateException.class;
    static final Class<UnsupportedOperationException> UNSUPPORTED = UnsupportedOperationException.class;
    static final Class<java.util.NoSuchElementException> ELEMENT = java.util.NoSuchElementException.class;
    static final Class<ArithmeticException> ARITHMETIC = ArithmeticException.class;

    private Leagues() {
    }

    static DraftLeague empty() {
        return new DraftLeague();
    }

    /** Teams of the same money, and players who can fill all positions, at the price 2. */
    static DraftLeague plain(int teams, int money, int players) {
        DraftLeague x = new DraftLeague();
        for (int team = 0; team < teams; team++) {
            x.addTeam(money);
        }
        for (int player = 0; player < players; player++) {
            x.addPlayer(15, 2);
        }
        return x;
    }

    static DraftLeague ready() {
        return plain(3, 50, 7);
    }

    /** Player 0 is up, and team 0 leads with 5. */
    static DraftLeague running() {
        DraftLeague x = ready();
        x.nominate(0, 0, 5);
        return x;
    }

    /** Team 0 has the players 0 and 3, team 1 has 1 and 4, team 2 has 2; 5 and 6 are free; the turn is 2's. */
    static DraftLeague sold() {
        DraftLeague x = ready();
        for (int player = 0; player < 5; player++) {
            x.nominate(player % 3, player, 5 + player);
            x.knock();
        }
        return x;
    }

    /** As sold, with the draft over: the money is 37, 35 and 43. */
    static DraftLeague drafted() {
        DraftLeague x = sold();
        x.endDraft();
        return x;
    }

    /** As drafted, behind the week 0, in which 0 and 1 met, 20 to 12, and 2 made 8. */
    static DraftLeague played() {
        DraftLeague x = drafted();
        x.meet(0, 0, 1);
        x.did(0, 0, 0, 5);
        x.did(0, 1, 0, 3);
        x.did(0, 2, 0, 2);
        x.endWeek();
        return x;
    }

    static DraftLeague weeksOver(int weeks) {
        DraftLeague x = drafted();
        for (int week = 0; week < weeks; week++) {
            x.endWeek();
        }
        return x;
    }

    /** Each team has one place, for the position 0, and no bench. */
    static void onePlace(DraftLeague x) {
        x.setBench(0);
        for (int position = 1; position < 4; position++) {
            x.setPlaces(position, 0);
        }
    }

    /** As drafted; team 0 has offered its player 0 and 4 of its money for player 1 of team 1. */
    static DraftLeague offered() {
        DraftLeague x = drafted();
        x.offer(0, 0, 1, 4);
        return x;
    }

    static DraftLeague accepted() {
        DraftLeague x = offered();
        x.accept(0);
        return x;
    }

    static DraftLeague votedAgainst() {
        DraftLeague x = accepted();
        x.veto(0, 2);
        return x;
    }

    /** The offer is done, and the week 0 is over. */
    static DraftLeague traded() {
        DraftLeague x = accepted();
        x.endWeek();
        return x;
    }
}
