/** Promises 1 to 7: a new league, its teams, players, places and rules. */
public final class SetupTest {
    private static final Check CHECK = new Check();

    public static void main(String[] args) {
        newLeague();
        addTeam();
        addTeamInTime();
        addPlayer();
        setPositions();
        setPlaces();
        setBench();
        setRule();
        CHECK.finish();
    }

    private static void newLeague() {
        DraftLeague x = new DraftLeague();
        CHECK.due("1 players", x.players(), 0);
        CHECK.due("1 week", x.week(), 0);
        CHECK.due("1 pot", x.pot(), 0);
        CHECK.due("1 suspects", x.suspects(), 0);
        CHECK.due("1 isSound", x.isSound(), true);
        CHECK.refused("1 no team", Leagues.INDEX, Leagues::empty, y -> y.money(0));
        CHECK.refused("1 no player", Leagues.INDEX, Leagues::empty, y -> y.ownerOf(0));
        CHECK.refused("1 no offer", Leagues.INDEX, Leagues::empty, y -> y.offerState(0));
        CHECK.refused("1 in the draft", Leagues.STATE, Leagues::empty, y -> y.endWeek());
        CHECK.due("1 the draft can end", x.endDraft(), 0);
    }

    private static void addTeam() {
        DraftLeague x = new DraftLeague();
        for (int team = 0; team < 8; team++) {
            CHECK.due("2 addTeam", x.addTeam(team == 0 ? 0 : 500), team);
        }
        CHECK.due("2 least money", x.money(0), 0);
        CHECK.due("2 most money", x.money(7), 500);
        CHECK.refused("2 addTeam(-1)", Leagues.ARGUMENT, Leagues::ready, y -> y.addTeam(-1));
        CHECK.refused("2 addTeam(501)", Leagues.ARGUMENT, Leagues::ready, y -> y.addTeam(501));
        CHECK.refused("2 a ninth team", Leagues.STATE, () -> Leagues.plain(8, 9, 2), y -> y.addTeam(1));
        CHECK.refused("2 a ninth team's money", Leagues.ARGUMENT, () -> Leagues.plain(8, 9, 2), y -> y.addTeam(501));
    }

    private static void addTeamInTime() {
        DraftLeague x = Leagues.ready();
        x.proxy(1, 1, 5);
        CHECK.due("2 a proxy does not begin the draft", x.addTeam(7), 3);
        CHECK.refused("2 a player is up", Leagues.STATE, Leagues::running, y -> y.addTeam(1));
        CHECK.refused("2 the draft has begun", Leagues.STATE, Leagues::sold, y -> y.addTeam(1));
        CHECK.refused("2 the draft is over", Leagues.STATE, Leagues::drafted, y -> y.addTeam(1));
        CHECK.refused("2 money first", Leagues.ARGUMENT, Leagues::drafted, y -> y.addTeam(-1));
        DraftLeague over = new DraftLeague();
        over.endDraft();
        try {
            over.addTeam(1);
            CHECK.report("2 addTeam behind a draft without players threw nothing");
        } catch (IllegalStateException e) {
            CHECK.due("2 no team was added", Portrait.of(over).contains("true"), true);
        }
    }

    private static void addPlayer() {
        DraftLeague x = new DraftLeague();
        CHECK.due("3 least", x.addPlayer(1, 1), 0);
        CHECK.due("3 most", x.addPlayer(15, 99), 1);
        CHECK.due("3 free", x.ownerOf(1), -1);
        CHECK.refused("3 no position", Leagues.ARGUMENT, Leagues::ready, y -> y.addPlayer(0, 1));
        CHECK.refused("3 position 4", Leagues.ARGUMENT, Leagues::ready, y -> y.addPlayer(16, 1));
        CHECK.refused("3 negative positions", Leagues.ARGUMENT, Leagues::ready, y -> y.addPlayer(-1, 1));
        CHECK.refused("3 price 0", Leagues.ARGUMENT, Leagues::ready, y -> y.addPlayer(1, 0));
        CHECK.refused("3 price 100", Leagues.ARGUMENT, Leagues::ready, y -> y.addPlayer(1, 100));
        for (int player = 2; player < 60; player++) {
            CHECK.due("3 addPlayer", x.addPlayer(1, 1), player);
        }
        CHECK.due("3 players", x.players(), 60);
        CHECK.refused("3 player 60", Leagues.STATE, () -> Leagues.plain(1, 1, 60), y -> y.addPlayer(1, 1));
        CHECK.refused("3 range first", Leagues.ARGUMENT, () -> Leagues.plain(1, 1, 60), y -> y.addPlayer(1, 100));
        DraftLeague late = Leagues.played();
        CHECK.due("3 at any time", late.addPlayer(1, 1), 7);
        CHECK.due("3 at any time, free", late.ownerOf(7), -1);
        CHECK.due("3 a new player did nothing", late.points(0, 7), 0);
    }

    private static void setPositions() {
        DraftLeague x = Leagues.drafted();
        CHECK.due("4 before", x.setPositions(0, 1), 15);
        CHECK.due("4 before, again", x.setPositions(0, 8), 1);
        CHECK.due("4 another", x.setPositions(3, 15), 15);
        CHECK.due("4 counts now", x.fills(0, 0, 0), 3);
        x.endWeek();
        x.setPositions(0, 2);
        CHECK.due("4 from now on", x.fills(1, 0, 0), 1);
        CHECK.due("4 a week that is over stays", x.fills(0, 0, 0), 3);
        CHECK.refused("4 no player", Leagues.INDEX, Leagues::ready, y -> y.setPositions(7, 1));
        CHECK.refused("4 player -1", Leagues.INDEX, Leagues::ready, y -> y.setPositions(-1, 0));
        CHECK.refused("4 no position", Leagues.ARGUMENT, Leagues::ready, y -> y.setPositions(6, 0));
        CHECK.refused("4 position 4", Leagues.ARGUMENT, Leagues::ready, y -> y.setPositions(0, 16));
    }

    private static void setPlaces() {
        DraftLeague x = Leagues.drafted();
        for (int position = 0; position < 4; position++) {
            CHECK.due("5 at first", x.setPlaces(position, position == 1 ? 3 : 0), 1);
        }
        CHECK.due("5 before", x.setPlaces(0, 0), 0);
        CHECK.due("5 most", x.setPlaces(1, 3), 3);
        CHECK.due("5 counts now", x.fills(0, 0, 0), 1);
        CHECK.due("5 several places", x.fills(0, 0, 3), 1);
        x.endWeek();
        x.setPlaces(1, 0);
        CHECK.due("5 no place", x.fills(1, 0, 3), -1);
        CHECK.due("5 a week that is over stays", x.fills(0, 0, 3), 1);
        CHECK.refused("5 position -1", Leagues.ARGUMENT, Leagues::ready, y -> y.setPlaces(-1, 1));
        CHECK.refused("5 position 4", Leagues.ARGUMENT, Leagues::ready, y -> y.setPlaces(4, 1));
        CHECK.refused("5 places -1", Leagues.ARGUMENT, Leagues::ready, y -> y.setPlaces(0, -1));
        CHECK.refused("5 places 4", Leagues.ARGUMENT, Leagues::ready, y -> y.setPlaces(0, 4));
    }

    private static void setBench() {
        DraftLeague x = Leagues.plain(1, 50, 8);
        CHECK.due("6 at first", x.setBench(0), 3);
        CHECK.due("6 before", x.setBench(6), 0);
        CHECK.due("6 most", x.setBench(0), 6);
        for (int player = 0; player < 4; player++) {
            x.nominate(0, player, 2);
            x.knock();
        }
        CHECK.refused("6 no room", Leagues.ELEMENT, () -> full(), y -> y.turnOf());
        x.setBench(1);
        CHECK.due("6 room again", x.turnOf(), 0);
        CHECK.refused("6 bench -1", Leagues.ARGUMENT, Leagues::ready, y -> y.setBench(-1));
        CHECK.refused("6 bench 7", Leagues.ARGUMENT, Leagues::ready, y -> y.setBench(7));
    }

    private static DraftLeague full() {
        DraftLeague x = Leagues.plain(1, 50, 8);
        x.setBench(0);
        for (int player = 0; player < 4; player++) {
            x.nominate(0, player, 2);
            x.knock();
        }
        return x;
    }

    private static void setRule() {
        DraftLeague x = Leagues.played();
        int[] first = {4, 1, 0, -2};
        for (int kind = 0; kind < 4; kind++) {
            CHECK.due("7 at first", x.setRule(kind, 9), first[kind]);
            CHECK.due("7 before", x.setRule(kind, -9), 9);
        }
        CHECK.due("7 counts now", x.did(1, 0, 2, 3), -27);
        CHECK.due("7 counts ahead", x.did(19, 0, 3, 1), -9);
        CHECK.due("7 a week that is over stays", x.points(0, 0), 20);
        CHECK.refused("7 kind -1", Leagues.ARGUMENT, Leagues::ready, y -> y.setRule(-1, 1));
        CHECK.refused("7 kind 4", Leagues.ARGUMENT, Leagues::ready, y -> y.setRule(4, 1));
        CHECK.refused("7 points 10", Leagues.ARGUMENT, Leagues::ready, y -> y.setRule(0, 10));
        CHECK.refused("7 points -10", Leagues.ARGUMENT, Leagues::ready, y -> y.setRule(0, -10));
    }
}
