import java.util.Arrays;
import java.util.NoSuchElementException;

/** A league of dreamt teams over real players; ../shared/DOC.md says what each call does. */
public final class DraftLeague {
    private static final int NONE = -1;

    private static final int TEAMS = 8;
    private static final int PLAYERS = 60;
    private static final int POSITIONS = 4;
    private static final int KINDS = 4;
    private static final int WEEKS = 20;
    private static final int OFFERS = 30;
    private static final int CLAIMS = 40;

    private static final int MOST_MONEY = 500;
    private static final int MOST_PRICE = 99;
    private static final int ALL_POSITIONS = 15;
    private static final int MOST_PLACES = 3;
    private static final int MOST_BENCH = 6;
    private static final int MOST_POINTS = 9;
    private static final int MOST_COUNT = 99;

    private static final int WON = 2;
    private static final int DRAWN = 1;
    private static final int LOST = 0;

    private static final int VALUE_OF_MONEY = 10;
    private static final int SUSPECT_VALUE = 100;

    /** A team gets a player only where it has room, or had it as it bid: more than this it never has. */
    private static final int SQUAD = POSITIONS * MOST_PLACES + MOST_BENCH;

    /** How many places are left is written with two bits for each position. */
    private static final int PLACES_BITS = 2;
    private static final int PLACES_MASK = 3;
    private static final int FILLINGS = 1 << (POSITIONS * PLACES_BITS);

    /** A player is sold once in the draft; each trade, and each claim of a week, moves two at most. */
    private static final int MOVES = PLAYERS + 2 * OFFERS + 2 * CLAIMS * WEEKS;

    private final Purse purse;
    private final Roster roster;
    private final Auction auction;
    private final Season season;
    private final Trades trades;
    private final Claims claims;

    public DraftLeague() {
        purse = new Purse();
        roster = new Roster();
        auction = new Auction(purse, roster);
        season = new Season(purse, roster);
        trades = new Trades(purse, roster, season);
        claims = new Claims(purse, roster, season);
    }

    // ---- teams and players

    public int addTeam(int money) throws IllegalArgumentException, IllegalStateException {
        requireRange(money, 0, MOST_MONEY);
        if (purse.count >= TEAMS || auction.begun || auction.over) {
            throw new IllegalStateException("no team can be added any more");
        }
        return purse.open(money);
    }

    public int addPlayer(int positions, int price) throws IllegalArgumentException, IllegalStateException {
        requireRange(positions, 1, ALL_POSITIONS);
        requireRange(price, 1, MOST_PRICE);
        if (roster.count >= PLAYERS) {
            throw new IllegalStateException("there are 60 players");
        }
        return roster.enlist(positions, price);
    }

    public int setPositions(int player, int positions) throws IndexOutOfBoundsException, IllegalArgumentException {
        requirePlayer(player);
        requireRange(positions, 1, ALL_POSITIONS);
        int before = roster.positions[roster.week][player];
        roster.positions[roster.week][player] = positions;
        return before;
    }

    public int setPlaces(int position, int places) throws IllegalArgumentException {
        requireRange(position, 0, POSITIONS - 1);
        requireRange(places, 0, MOST_PLACES);
        int before = roster.places[roster.week][position];
        roster.places[roster.week][position] = places;
        return before;
    }

    public int setBench(int places) throws IllegalArgumentException {
        requireRange(places, 0, MOST_BENCH);
        int before = roster.bench;
        roster.bench = places;
        return before;
    }

    public int setRule(int kind, int points) throws IllegalArgumentException {
        requireRange(kind, 0, KINDS - 1);
        requireRange(points, -MOST_POINTS, MOST_POINTS);
        int before = roster.rules[roster.week][kind];
        roster.rules[roster.week][kind] = points;
        return before;
    }

    // ---- the draft

    public int nominate(int team, int player, int bid) throws IndexOutOfBoundsException, IllegalStateException,
            IllegalArgumentException, UnsupportedOperationException {
        requireTeam(team);
        requirePlayer(player);
        if (auction.over || auction.up != NONE || auction.nextTeam() != team) {
            throw new IllegalStateException("it is not the turn of this team");
        }
        if (bid < roster.prices[player] || bid > purse.money[team]) {
            throw new IllegalArgumentException("the bid is less than the price, or more than the team can pay");
        }
        if (!roster.isFree(player) || !roster.hasRoom(team)) {
            throw new UnsupportedOperationException("the player is not free, or the team has no room");
        }
        auction.putUp(team, player, bid);
        return auction.leader;
    }

    public boolean bid(int team, int amount) throws IndexOutOfBoundsException, IllegalStateException,
            IllegalArgumentException, UnsupportedOperationException {
        requireTeam(team);
        requirePlayerUp();
        if (amount <= auction.top || amount > purse.money[team]) {
            throw new IllegalArgumentException("the amount is too low, or more than the team can pay");
        }
        if (auction.leader == team || !roster.hasRoom(team)) {
            throw new UnsupportedOperationException("the team leads already, or has no room");
        }
        auction.raise(team, amount);
        return auction.leader == team;
    }

    public int proxy(int team, int player, int most) throws IndexOutOfBoundsException, IllegalArgumentException {
        requireTeam(team);
        requirePlayer(player);
        if (most < 0) {
            throw new IllegalArgumentException("the most is less than 0");
        }
        return auction.tellProxy(team, player, most);
    }

    public int knock() throws IllegalStateException {
        requirePlayerUp();
        return auction.sell();
    }

    public int turnOf() throws IllegalStateException, NoSuchElementException {
        if (auction.over || auction.up != NONE) {
            throw new IllegalStateException("the draft is over, or a player is up");
        }
        int team = auction.nextTeam();
        if (team == NONE) {
            throw new NoSuchElementException("no team has room");
        }
        return team;
    }

    public int endDraft() throws IllegalStateException {
        if (auction.over || auction.up != NONE) {
            throw new IllegalStateException("the draft is over, or a player is up");
        }
        auction.over = true;
        return roster.countOf(NONE);
    }

    public int ownerOf(int player) throws IndexOutOfBoundsException {
        requirePlayer(player);
        return roster.teamOf(player);
    }

    public int paidFor(int player) throws IndexOutOfBoundsException, NoSuchElementException {
        requirePlayer(player);
        if (roster.isFree(player)) {
            throw new NoSuchElementException("the player is free");
        }
        return roster.paid[player];
    }

    public int money(int team) throws IndexOutOfBoundsException {
        requireTeam(team);
        return purse.money[team];
    }

    public int size(int team) throws IndexOutOfBoundsException {
        requireTeam(team);
        return roster.countOf(team);
    }

    // ---- claims and trades

    public int claim(int team, int player, int out, int amount) throws IndexOutOfBoundsException,
            IllegalStateException, UnsupportedOperationException, IllegalArgumentException {
        requireTeam(team);
        requirePlayer(player);
        if (out != NONE) {
            requirePlayer(out);
        }
        if (!auction.over || roster.week >= WEEKS || claims.count >= CLAIMS) {
            throw new IllegalStateException("no claim can be made now");
        }
        if (!roster.isFree(player) || (out != NONE && roster.teamOf(out) != team)) {
            throw new UnsupportedOperationException("the player is not free, or the other one not its own");
        }
        requireRange(amount, 0, purse.money[team]);
        return claims.file(team, player, out, amount);
    }

    public int offer(int team, int player, int other, int amount) throws IndexOutOfBoundsException,
            UnsupportedOperationException, IllegalStateException, IllegalArgumentException {
        requireTeam(team);
        requirePlayer(player);
        requirePlayer(other);
        int partner = roster.teamOf(other);
        if (roster.teamOf(player) != team || partner == team || partner == NONE) {
            throw new UnsupportedOperationException("these players can't be traded by this team");
        }
        if (!auction.over || trades.count >= OFFERS) {
            throw new IllegalStateException("the draft is not over, or there were 30 offers");
        }
        if (!purse.canSend(team, partner, amount)) {
            throw new IllegalArgumentException("a team has less money than it would pay");
        }
        return trades.propose(team, player, other, amount);
    }

    public boolean accept(int offer) throws IndexOutOfBoundsException, UnsupportedOperationException {
        requireOffer(offer);
        if (trades.states[offer] != Trades.OPEN) {
            throw new UnsupportedOperationException("the offer was accepted, or is over");
        }
        trades.states[offer] = Trades.WAITING;
        return true;
    }

    public int veto(int offer, int team) throws IndexOutOfBoundsException, UnsupportedOperationException {
        requireOffer(offer);
        requireTeam(team);
        if (trades.states[offer] != Trades.WAITING || !trades.mayVote(offer, team)) {
            throw new UnsupportedOperationException("the team can't vote against this offer");
        }
        return trades.voteAgainst(offer, team);
    }

    public char offerState(int offer) throws IndexOutOfBoundsException {
        requireOffer(offer);
        return trades.states[offer];
    }

    // ---- weeks and tables

    public boolean meet(int week, int one, int other) throws IndexOutOfBoundsException, IllegalArgumentException {
        requireTeam(one);
        requireTeam(other);
        requireRange(week, roster.week, WEEKS - 1);
        if (one == other) {
            throw new IllegalArgumentException("both teams are the same");
        }
        return season.pair(week, one, other);
    }

    public long did(int week, int player, int kind, int count) throws IndexOutOfBoundsException,
            IllegalArgumentException, UnsupportedOperationException {
        requirePlayer(player);
        requireWeek(week);
        requireRange(kind, 0, KINDS - 1);
        requireRange(count, 0, MOST_COUNT);
        if (week < season.finals) {
            throw new UnsupportedOperationException("the week is final");
        }
        season.note(week, player, kind, count);
        return season.pointsIn(week, player);
    }

    public int endWeek() throws IllegalStateException {
        if (!auction.over || roster.week >= WEEKS) {
            throw new IllegalStateException("the draft is not over, or all weeks are over");
        }
        season.closeWeek();
        trades.settleAll();
        claims.settleAll();
        return roster.week;
    }

    public int week() {
        return roster.week;
    }

    public boolean setFinal(int week) throws IllegalArgumentException {
        requireWeekOver(week);
        if (week < season.finals) {
            return false;
        }
        season.finals = week + 1;
        return true;
    }

    public long points(int week, int player) throws IndexOutOfBoundsException, IllegalArgumentException {
        requirePlayer(player);
        requireWeek(week);
        return season.pointsIn(week, player);
    }

    public long score(int week, int team) throws IndexOutOfBoundsException, IllegalArgumentException {
        requireTeam(team);
        requireWeek(week);
        return season.scoreIn(week, team);
    }

    public int fills(int week, int team, int player) throws IndexOutOfBoundsException, IllegalArgumentException,
            NoSuchElementException {
        requireTeam(team);
        requirePlayer(player);
        requireWeek(week);
        if (roster.owners[roster.rowOf(week)][player] != team) {
            throw new NoSuchElementException("the player is not of this team for this week");
        }
        return season.positionIn(week, team, player);
    }

    public int result(int week, int team) throws IndexOutOfBoundsException, IllegalArgumentException,
            NoSuchElementException {
        requireTeam(team);
        requireWeekOver(week);
        if (season.rivals[week][team] == NONE) {
            throw new NoSuchElementException("the team had no match");
        }
        return season.resultIn(week, team);
    }

    public int rank(int team) throws IndexOutOfBoundsException {
        requireTeam(team);
        return season.rankOf(team);
    }

    public int ranked(int rank) throws IndexOutOfBoundsException {
        for (int team = 0; team < purse.count; team++) {
            if (season.rankOf(team) == rank) {
                return team;
            }
        }
        throw new IndexOutOfBoundsException("there is no such rank");
    }

    public int wins(int team) throws IndexOutOfBoundsException {
        requireTeam(team);
        return season.matchSum(team);
    }

    public long sumOf(int team) throws IndexOutOfBoundsException {
        requireTeam(team);
        return season.scoreSum(team);
    }

    // ---- figures

    public int suspects() {
        return trades.countSuspects();
    }

    public long tradeValue(int offer) throws IndexOutOfBoundsException {
        requireOffer(offer);
        return trades.valueOf(offer);
    }

    public long pot() {
        return purse.pot;
    }

    public int players() {
        return roster.count;
    }

    public float freeShare() throws ArithmeticException {
        if (roster.count == 0) {
            throw new ArithmeticException("there are no players");
        }
        return (float) roster.countOf(NONE) / (float) roster.count;
    }

    public double meanScore() throws ArithmeticException {
        int scores = purse.count * roster.week;
        if (scores == 0) {
            throw new ArithmeticException("there are no teams, or no weeks are over");
        }
        long sum = 0;
        for (int team = 0; team < purse.count; team++) {
            sum += season.scoreSum(team);
        }
        return (double) sum / (double) scores;
    }

    public boolean isSound() {
        return roster.agreesWithJournal() && purse.addsUp();
    }

    // ---- what calls are refused for

    private void requireTeam(int team) {
        if (team < 0 || team >= purse.count) {
            throw new IndexOutOfBoundsException("there is no such team");
        }
    }

    private void requirePlayer(int player) {
        if (player < 0 || player >= roster.count) {
            throw new IndexOutOfBoundsException("there is no such player");
        }
    }

    private void requireOffer(int offer) {
        if (offer < 0 || offer >= trades.count) {
            throw new IndexOutOfBoundsException("there is no such offer");
        }
    }

    private void requirePlayerUp() {
        if (auction.up == NONE) {
            throw new IllegalStateException("no player is up");
        }
    }

    private void requireWeek(int week) {
        requireRange(week, 0, WEEKS - 1);
    }

    private void requireWeekOver(int week) {
        requireRange(week, 0, roster.week - 1);
    }

    private static void requireRange(int number, int least, int most) {
        if (number < least || number > most) {
            throw new IllegalArgumentException("a number is out of range");
        }
    }

    /** The money of the teams, and the pot that they pay into. */
    private static final class Purse {
        private int count;
        private long pot;
        private final int[] brought = new int[TEAMS];
        private final int[] money = new int[TEAMS];

        private int open(int amount) {
            int team = count;
            brought[team] = amount;
            money[team] = amount;
            count++;
            return team;
        }

        private void payIn(int team, int amount) {
            money[team] -= amount;
            pot += amount;
        }

        /** The amount may be any number here: as a long its opposite does not wrap around. */
        private boolean canSend(int from, int to, long amount) {
            return money[from] >= amount && money[to] >= -amount;
        }

        private void send(int from, int to, int amount) {
            money[from] -= amount;
            money[to] += amount;
        }

        private boolean addsUp() {
            long difference = -pot;
            for (int team = 0; team < count; team++) {
                if (money[team] < 0) {
                    return false;
                }
                difference += brought[team] - money[team];
            }
            return difference == 0;
        }
    }

    /** All moves of players in their order, from which the owners can be told a second time. */
    private static final class Journal {
        private int length;
        private final int[] moved = new int[MOVES];
        private final int[] goals = new int[MOVES];
        private final int[] told = new int[PLAYERS];

        private void write(int player, int team) {
            if (length < MOVES) {
                moved[length] = player;
                goals[length] = team;
                length++;
            }
        }

        private int[] tellOwners() {
            Arrays.fill(told, NONE);
            for (int move = 0; move < length; move++) {
                told[moved[move]] = goals[move];
            }
            return told;
        }
    }

    /**
     * The players, and what counts for all teams. What a week keeps when it ends has a row for each week:
     * only the row of the running week is written, so that those ahead of it stay as they were.
     */
    private static final class Roster {
        private int week;
        private int count;
        private int bench = 3;
        private final int[] prices = new int[PLAYERS];
        private final int[] paid = new int[PLAYERS];
        private final int[][] owners = new int[WEEKS + 1][PLAYERS];
        private final int[][] positions = new int[WEEKS + 1][PLAYERS];
        private final int[][] places = new int[WEEKS + 1][POSITIONS];
        private final int[][] rules = new int[WEEKS + 1][KINDS];
        private final Journal journal = new Journal();

        private Roster() {
            Arrays.fill(owners[0], NONE);
            Arrays.fill(places[0], 1);
            rules[0][0] = 4;
            rules[0][1] = 1;
            rules[0][2] = 0;
            rules[0][3] = -2;
        }

        private int enlist(int sum, int price) {
            int player = count;
            positions[week][player] = sum;
            prices[player] = price;
            count++;
            return player;
        }

        private int rowOf(int asked) {
            return Math.min(asked, week);
        }

        private void turnPage() {
            copyRow(owners);
            copyRow(positions);
            copyRow(places);
            copyRow(rules);
            week++;
        }

        private void copyRow(int[][] rows) {
            System.arraycopy(rows[week], 0, rows[week + 1], 0, rows[week].length);
        }

        private int teamOf(int player) {
            return owners[week][player];
        }

        private boolean isFree(int player) {
            return teamOf(player) == NONE;
        }

        private void give(int player, int team) {
            owners[week][player] = team;
            journal.write(player, team);
        }

        private int countOf(int team) {
            int found = 0;
            for (int player = 0; player < count; player++) {
                if (owners[week][player] == team) {
                    found++;
                }
            }
            return found;
        }

        private boolean hasRoom(int team) {
            int room = bench;
            for (int position = 0; position < POSITIONS; position++) {
                room += places[week][position];
            }
            return countOf(team) < room;
        }

        private boolean agreesWithJournal() {
            int[] told = journal.tellOwners();
            for (int player = 0; player < count; player++) {
                if (told[player] != teamOf(player)) {
                    return false;
                }
            }
            return true;
        }
    }

    /** The draft: whose turn it is, the player who is up, and the bids that teams make by themselves. */
    private static final class Auction {
        private final Purse purse;
        private final Roster roster;
        private boolean begun;
        private boolean over;
        private int turnFrom;
        private int up = NONE;
        private int nominator = NONE;
        private int leader = NONE;
        private int top;
        private final int[][] proxies = new int[TEAMS][PLAYERS];

        private Auction(Purse purse, Roster roster) {
            this.purse = purse;
            this.roster = roster;
        }

        private int nextTeam() {
            for (int step = 0; step < purse.count; step++) {
                int team = turnFrom + step;
                if (team >= purse.count) {
                    team -= purse.count;
                }
                if (roster.hasRoom(team)) {
                    return team;
                }
            }
            return NONE;
        }

        private void putUp(int team, int player, int amount) {
            begun = true;
            up = player;
            nominator = team;
            raise(team, amount);
        }

        private void raise(int team, int amount) {
            leader = team;
            top = amount;
            runProxies();
        }

        private int tellProxy(int team, int player, int most) {
            int before = proxies[team][player];
            proxies[team][player] = most;
            if (player == up) {
                runProxies();
            }
            return before;
        }

        /** Each step takes 1 more of a team's money, which no trade has raised yet: the steps end by its limit. */
        private void runProxies() {
            for (int step = 0; step < MOST_MONEY; step++) {
                int team = strongestProxy();
                if (team == NONE) {
                    return;
                }
                leader = team;
                top++;
            }
        }

        private int strongestProxy() {
            int strongest = NONE;
            int most = top;
            for (int team = 0; team < purse.count; team++) {
                int limit = Math.min(proxies[team][up], purse.money[team]);
                if (team != leader && limit > most && roster.hasRoom(team)) {
                    strongest = team;
                    most = limit;
                }
            }
            return strongest;
        }

        private int sell() {
            purse.payIn(leader, top);
            roster.paid[up] = top;
            roster.give(up, leader);
            turnFrom = nominator + 1;
            up = NONE;
            return leader;
        }
    }

    /** The best filling of the places of one team, by the best sums that its last players can add. */
    private static final class Filling {
        private int size;
        private final int[] names = new int[SQUAD];
        private final int[] masks = new int[SQUAD];
        private final int[] gains = new int[SQUAD];
        private final int[][] best = new int[SQUAD + 1][FILLINGS];

        private void take(int player, int mask, int gain) {
            if (size < SQUAD) {
                names[size] = player;
                masks[size] = mask;
                gains[size] = gain;
                size++;
            }
        }

        private int solve(int room) {
            Arrays.fill(best[size], 0);
            for (int index = size - 1; index >= 0; index--) {
                for (int left = 0; left <= room; left++) {
                    best[index][left] = bestFrom(index, left);
                }
            }
            return best[0][room];
        }

        private int bestFrom(int index, int left) {
            int most = best[index + 1][left];
            for (int position = 0; position < POSITIONS; position++) {
                if (canFill(index, position, left)) {
                    most = Math.max(most, sumWith(index, position, left));
                }
            }
            return most;
        }

        private boolean canFill(int index, int position, int left) {
            boolean able = ((masks[index] >> position) & 1) != 0;
            return able && ((left >> (PLACES_BITS * position)) & PLACES_MASK) != 0;
        }

        private int sumWith(int index, int position, int left) {
            return gains[index] + best[index + 1][left - placesOf(position, 1)];
        }

        /** To be asked when solve has been called with the same room. */
        private int positionOf(int player, int room) {
            int left = room;
            for (int index = 0; index < size; index++) {
                int position = lowestBest(index, left);
                if (names[index] == player) {
                    return position;
                }
                if (position != NONE) {
                    left -= placesOf(position, 1);
                }
            }
            return NONE;
        }

        private int lowestBest(int index, int left) {
            for (int position = 0; position < POSITIONS; position++) {
                if (canFill(index, position, left) && sumWith(index, position, left) == best[index][left]) {
                    return position;
                }
            }
            return NONE;
        }

        private static int placesOf(int position, int places) {
            return places << (PLACES_BITS * position);
        }
    }

    /** What players did, the matches, and the table that both make. */
    private static final class Season {
        private final Purse purse;
        private final Roster roster;
        private final Filling filling = new Filling();
        private int finals;
        private final int[][] counts = new int[WEEKS][PLAYERS * KINDS];
        private final int[][] rivals = new int[WEEKS][TEAMS];
        /** Scores of weeks that are over: the table asks for all of them again and again. */
        private final int[][] scores = new int[WEEKS][TEAMS];

        private Season(Purse purse, Roster roster) {
            this.purse = purse;
            this.roster = roster;
            for (int week = 0; week < WEEKS; week++) {
                Arrays.fill(rivals[week], NONE);
            }
        }

        private boolean pair(int week, int one, int other) {
            if (rivals[week][one] != NONE || rivals[week][other] != NONE) {
                return false;
            }
            rivals[week][one] = other;
            rivals[week][other] = one;
            return true;
        }

        private void note(int week, int player, int kind, int count) {
            counts[week][player * KINDS + kind] = count;
            int team = roster.owners[roster.rowOf(week)][player];
            if (week < roster.week && team != NONE) {
                scores[week][team] = bestSum(week, team);
            }
        }

        private int pointsIn(int week, int player) {
            int[] rules = roster.rules[roster.rowOf(week)];
            int sum = 0;
            for (int kind = 0; kind < KINDS; kind++) {
                sum += counts[week][player * KINDS + kind] * rules[kind];
            }
            return sum;
        }

        private int pointsOver(int player) {
            int sum = 0;
            for (int week = 0; week < roster.week; week++) {
                sum += pointsIn(week, player);
            }
            return sum;
        }

        private int scoreIn(int week, int team) {
            return week < roster.week ? scores[week][team] : bestSum(week, team);
        }

        private int bestSum(int week, int team) {
            gather(week, team);
            return filling.solve(roomIn(week));
        }

        private int positionIn(int week, int team, int player) {
            gather(week, team);
            int room = roomIn(week);
            filling.solve(room);
            return filling.positionOf(player, room);
        }

        private void gather(int week, int team) {
            int row = roster.rowOf(week);
            filling.size = 0;
            for (int player = 0; player < roster.count; player++) {
                if (roster.owners[row][player] == team) {
                    filling.take(player, roster.positions[row][player], pointsIn(week, player));
                }
            }
        }

        private int roomIn(int week) {
            int[] places = roster.places[roster.rowOf(week)];
            int room = 0;
            for (int position = 0; position < POSITIONS; position++) {
                room += Filling.placesOf(position, places[position]);
            }
            return room;
        }

        private void closeWeek() {
            for (int team = 0; team < purse.count; team++) {
                scores[roster.week][team] = bestSum(roster.week, team);
            }
            roster.turnPage();
        }

        private int resultIn(int week, int team) {
            int own = scores[week][team];
            int theirs = scores[week][rivals[week][team]];
            if (own == theirs) {
                return DRAWN;
            }
            return own > theirs ? WON : LOST;
        }

        private int matchSum(int team) {
            int sum = 0;
            for (int week = 0; week < roster.week; week++) {
                if (rivals[week][team] != NONE) {
                    sum += resultIn(week, team);
                }
            }
            return sum;
        }

        private int scoreSum(int team) {
            int sum = 0;
            for (int week = 0; week < roster.week; week++) {
                sum += scores[week][team];
            }
            return sum;
        }

        private int rankOf(int team) {
            int rank = 1;
            for (int other = 0; other < purse.count; other++) {
                if (isAhead(other, team)) {
                    rank++;
                }
            }
            return rank;
        }

        private boolean isAhead(int one, int other) {
            int byMatches = matchSum(one) - matchSum(other);
            if (byMatches != 0) {
                return byMatches > 0;
            }
            int byScores = scoreSum(one) - scoreSum(other);
            if (byScores != 0) {
                return byScores > 0;
            }
            return one < other;
        }
    }

    /** The offers, and what became of them. */
    private static final class Trades {
        private static final char OPEN = 'o';
        private static final char WAITING = 'w';
        private static final char DONE = 'd';
        private static final char VETOED = 'v';
        private static final char VOID = 'x';

        private final Purse purse;
        private final Roster roster;
        private final Season season;
        private int count;
        private final int[] givers = new int[OFFERS];
        private final int[] partners = new int[OFFERS];
        private final int[] given = new int[OFFERS];
        private final int[] wanted = new int[OFFERS];
        private final int[] amounts = new int[OFFERS];
        /** A bit for each team that has voted against the offer. */
        private final int[] votes = new int[OFFERS];
        private final char[] states = new char[OFFERS];

        private Trades(Purse purse, Roster roster, Season season) {
            this.purse = purse;
            this.roster = roster;
            this.season = season;
        }

        private int propose(int team, int player, int other, int amount) {
            int offer = count;
            givers[offer] = team;
            partners[offer] = roster.teamOf(other);
            given[offer] = player;
            wanted[offer] = other;
            amounts[offer] = amount;
            states[offer] = OPEN;
            count++;
            return offer;
        }

        private boolean mayVote(int offer, int team) {
            boolean hasPart = team == givers[offer] || team == partners[offer];
            return !hasPart && ((votes[offer] >> team) & 1) == 0;
        }

        private int voteAgainst(int offer, int team) {
            votes[offer] |= 1 << team;
            return Integer.bitCount(votes[offer]);
        }

        private void settleAll() {
            for (int offer = 0; offer < count; offer++) {
                if (states[offer] == WAITING) {
                    states[offer] = settle(offer);
                }
            }
        }

        private char settle(int offer) {
            int judges = purse.count - 2;
            if (2 * Integer.bitCount(votes[offer]) > judges) {
                return VETOED;
            }
            if (!canBeDone(offer)) {
                return VOID;
            }
            roster.give(given[offer], partners[offer]);
            roster.give(wanted[offer], givers[offer]);
            purse.send(givers[offer], partners[offer], amounts[offer]);
            return DONE;
        }

        private boolean canBeDone(int offer) {
            return roster.teamOf(given[offer]) == givers[offer]
                    && roster.teamOf(wanted[offer]) == partners[offer]
                    && purse.canSend(givers[offer], partners[offer], amounts[offer]);
        }

        private long valueOf(int offer) {
            long gained = season.pointsOver(wanted[offer]) - season.pointsOver(given[offer]);
            return gained - (long) VALUE_OF_MONEY * amounts[offer];
        }

        private int countSuspects() {
            int found = 0;
            for (int offer = 0; offer < count; offer++) {
                if (states[offer] == DONE && Math.abs(valueOf(offer)) > SUSPECT_VALUE) {
                    found++;
                }
            }
            return found;
        }
    }

    /** The claims of the running week. */
    private static final class Claims {
        private final Purse purse;
        private final Roster roster;
        private final Season season;
        private int count;
        private final int[] teams = new int[CLAIMS];
        private final int[] claimed = new int[CLAIMS];
        private final int[] outs = new int[CLAIMS];
        private final int[] amounts = new int[CLAIMS];
        private final int[] order = new int[CLAIMS];
        private final int[] ranks = new int[TEAMS];

        private Claims(Purse purse, Roster roster, Season season) {
            this.purse = purse;
            this.roster = roster;
            this.season = season;
        }

        private int file(int team, int player, int out, int amount) {
            teams[count] = team;
            claimed[count] = player;
            outs[count] = out;
            amounts[count] = amount;
            count++;
            return count;
        }

        private void settleAll() {
            sort();
            for (int index = 0; index < count; index++) {
                int claim = order[index];
                if (canBeDone(claim)) {
                    carryOut(claim);
                }
            }
            count = 0;
        }

        private void sort() {
            for (int team = 0; team < purse.count; team++) {
                ranks[team] = season.rankOf(team);
            }
            for (int claim = 0; claim < count; claim++) {
                int slot = claim;
                while (slot > 0 && isAhead(claim, order[slot - 1])) {
                    order[slot] = order[slot - 1];
                    slot--;
                }
                order[slot] = claim;
            }
        }

        /** Of equal claims the one that was made first is sorted first: it stays where it is. */
        private boolean isAhead(int later, int earlier) {
            if (amounts[later] != amounts[earlier]) {
                return amounts[later] > amounts[earlier];
            }
            return ranks[teams[later]] > ranks[teams[earlier]];
        }

        private boolean canBeDone(int claim) {
            int team = teams[claim];
            if (!roster.isFree(claimed[claim]) || purse.money[team] < amounts[claim]) {
                return false;
            }
            int out = outs[claim];
            return out == NONE ? roster.hasRoom(team) : roster.teamOf(out) == team;
        }

        private void carryOut(int claim) {
            int team = teams[claim];
            int player = claimed[claim];
            purse.payIn(team, amounts[claim]);
            if (outs[claim] != NONE) {
                roster.give(outs[claim], NONE);
            }
            roster.paid[player] = amounts[claim];
            roster.give(player, team);
        }
    }
}
