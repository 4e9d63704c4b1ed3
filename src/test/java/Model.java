import java.util.ArrayList;
import java.util.Comparator;
import java.util.HashMap;
import java.util.HashSet;
import java.util.List;
import java.util.Map;
import java.util.NoSuchElementException;
import java.util.Set;

/** The document once more, as slowly as it reads: every answer is worked out anew from what was told. */
public final class Model {
    private static final class Player {
        int mask;
        int price;
        int owner = -1;
        int paid;
    }

    private static final class Deal {
        int team;
        int player;
        int partner;
        int other;
        int amount;
        char state = 'o';
        final Set<Integer> against = new HashSet<>();
    }

    private record Claim(int team, int player, int out, int amount, int number) {
    }

    /** What held as a week ended, or what holds now. */
    private record Scene(List<Integer> owners, List<Integer> masks, List<Integer> places, List<Integer> rules) {
    }

    private final List<Integer> brought = new ArrayList<>();
    private final List<Integer> purses = new ArrayList<>();
    private final List<Player> all = new ArrayList<>();
    private final List<Deal> deals = new ArrayList<>();
    private final List<Claim> waiting = new ArrayList<>();
    private final List<Scene> past = new ArrayList<>();
    private final List<Integer> places = new ArrayList<>(List.of(1, 1, 1, 1));
    private final List<Integer> rules = new ArrayList<>(List.of(4, 1, 0, -2));
    private final Map<String, Integer> proxies = new HashMap<>();
    private final Map<String, Integer> told = new HashMap<>();
    private final Map<String, Integer> matches = new HashMap<>();
    private int bench = 3;
    private long paidIn;
    private boolean begun;
    private boolean over;
    private int finalUpTo = -1;
    private int start;
    private int up = -1;
    private int whoseTurn;
    private int leads;
    private int leading;

    private static void index(boolean fine) {
        if (!fine) {
            throw new IndexOutOfBoundsException();
        }
    }

    private static void argument(boolean fine) {
        if (!fine) {
            throw new IllegalArgumentException();
        }
    }

    private static void state(boolean fine) {
        if (!fine) {
            throw new IllegalStateException();
        }
    }

    private static void supported(boolean fine) {
        if (!fine) {
            throw new UnsupportedOperationException();
        }
    }

    private static void element(boolean fine) {
        if (!fine) {
            throw new NoSuchElementException();
        }
    }

    private static boolean within(int number, int least, int most) {
        return least <= number && number <= most;
    }

    private boolean isTeam(int team) {
        return within(team, 0, purses.size() - 1);
    }

    private boolean isPlayer(int player) {
        return within(player, 0, all.size() - 1);
    }

    private boolean isOffer(int offer) {
        return within(offer, 0, deals.size() - 1);
    }

    private int roomLeft(int team) {
        return bench + places.stream().mapToInt(Integer::intValue).sum() - size(team);
    }

    public int addTeam(int money) {
        argument(within(money, 0, 500));
        state(purses.size() != 8 && !begun && !over);
        brought.add(money);
        purses.add(money);
        return purses.size() - 1;
    }

    public int addPlayer(int positions, int price) {
        argument(within(positions, 1, 15) && within(price, 1, 99));
        state(all.size() != 60);
        Player player = new Player();
        player.mask = positions;
        player.price = price;
        all.add(player);
        return all.size() - 1;
    }

    public int setPositions(int player, int positions) {
        index(isPlayer(player));
        argument(within(positions, 1, 15));
        int before = all.get(player).mask;
        all.get(player).mask = positions;
        return before;
    }

    public int setPlaces(int position, int count) {
        argument(within(position, 0, 3) && within(count, 0, 3));
        return places.set(position, count);
    }

    public int setBench(int count) {
        argument(within(count, 0, 6));
        int before = bench;
        bench = count;
        return before;
    }

    public int setRule(int kind, int points) {
        argument(within(kind, 0, 3) && within(points, -9, 9));
        return rules.set(kind, points);
    }

    private int turn() {
        for (int team = start; team < purses.size(); team++) {
            if (roomLeft(team) > 0) {
                return team;
            }
        }
        for (int team = 0; team < Math.min(start, purses.size()); team++) {
            if (roomLeft(team) > 0) {
                return team;
            }
        }
        return -1;
    }

    public int nominate(int team, int player, int bid) {
        index(isTeam(team) && isPlayer(player));
        state(!over && up == -1 && turn() == team);
        argument(bid >= all.get(player).price && bid <= purses.get(team));
        supported(all.get(player).owner == -1);
        begun = true;
        up = player;
        whoseTurn = team;
        leads = team;
        leading = bid;
        bidByThemselves();
        return leads;
    }

    public boolean bid(int team, int amount) {
        index(isTeam(team));
        state(up != -1);
        argument(amount > leading && amount <= purses.get(team));
        supported(roomLeft(team) > 0 && leads != team);
        leads = team;
        leading = amount;
        bidByThemselves();
        return leads == team;
    }

    private int lesser(int team) {
        return Math.min(purses.get(team), proxies.getOrDefault(team + "/" + up, 0));
    }

    private void bidByThemselves() {
        while (true) {
            List<Integer> able = new ArrayList<>();
            for (int team = 0; team < purses.size(); team++) {
                if (team != leads && roomLeft(team) > 0 && lesser(team) > leading) {
                    able.add(team);
                }
            }
            if (able.isEmpty()) {
                return;
            }
            leads = able.stream().max(Comparator.comparing(this::lesser).thenComparing(team -> -team)).get();
            leading++;
        }
    }

    public int proxy(int team, int player, int most) {
        index(isTeam(team) && isPlayer(player));
        argument(most >= 0);
        Integer before = proxies.put(team + "/" + player, most);
        if (up == player) {
            bidByThemselves();
        }
        return before == null ? 0 : before;
    }

    private void pay(int team, int amount) {
        purses.set(team, purses.get(team) - amount);
        paidIn += amount;
    }

    public int knock() {
        state(up != -1);
        pay(leads, leading);
        all.get(up).owner = leads;
        all.get(up).paid = leading;
        up = -1;
        start = (whoseTurn + 1) % purses.size();
        return leads;
    }

    public int turnOf() {
        state(!over && up == -1);
        element(turn() != -1);
        return turn();
    }

    public int endDraft() {
        state(!over && up == -1);
        over = true;
        return size0(-1);
    }

    public int ownerOf(int player) {
        index(isPlayer(player));
        return all.get(player).owner;
    }

    public int paidFor(int player) {
        index(isPlayer(player));
        element(all.get(player).owner != -1);
        return all.get(player).paid;
    }

    public int money(int team) {
        index(isTeam(team));
        return purses.get(team);
    }

    public int size(int team) {
        index(isTeam(team));
        return size0(team);
    }

    private int size0(int team) {
        return (int) all.stream().filter(player -> player.owner == team).count();
    }

    public int claim(int team, int player, int out, int amount) {
        index(isTeam(team) && isPlayer(player) && (out == -1 || isPlayer(out)));
        state(over && past.size() < 20 && waiting.size() != 40);
        supported(all.get(player).owner == -1 && (out == -1 || all.get(out).owner == team));
        argument(within(amount, 0, purses.get(team)));
        waiting.add(new Claim(team, player, out, amount, waiting.size()));
        return waiting.size();
    }

    public int offer(int team, int player, int other, int amount) {
        index(isTeam(team) && isPlayer(player) && isPlayer(other));
        int partner = all.get(other).owner;
        supported(all.get(player).owner == team && partner != team && partner != -1);
        state(over && deals.size() != 30);
        argument(purses.get(team) >= amount && purses.get(partner) >= -(long) amount);
        Deal deal = new Deal();
        deal.team = team;
        deal.player = player;
        deal.partner = partner;
        deal.other = other;
        deal.amount = amount;
        deals.add(deal);
        return deals.size() - 1;
    }

    public boolean accept(int offer) {
        index(isOffer(offer));
        supported(deals.get(offer).state == 'o');
        deals.get(offer).state = 'w';
        return true;
    }

    public int veto(int offer, int team) {
        index(isOffer(offer) && isTeam(team));
        Deal deal = deals.get(offer);
        supported(deal.state == 'w' && team != deal.team && team != deal.partner && !deal.against.contains(team));
        deal.against.add(team);
        return deal.against.size();
    }

    public char offerState(int offer) {
        index(isOffer(offer));
        return deals.get(offer).state;
    }

    public boolean meet(int week, int one, int other) {
        index(isTeam(one) && isTeam(other));
        argument(within(week, past.size(), 19) && one != other);
        if (matches.containsKey(week + "/" + one) || matches.containsKey(week + "/" + other)) {
            return false;
        }
        matches.put(week + "/" + one, other);
        matches.put(week + "/" + other, one);
        return true;
    }

    public long did(int week, int player, int kind, int count) {
        index(isPlayer(player));
        argument(within(week, 0, 19) && within(kind, 0, 3) && within(count, 0, 99));
        supported(week > finalUpTo);
        told.put(week + "/" + player + "/" + kind, count);
        return points(week, player);
    }

    private Scene scene(int week) {
        if (week < past.size()) {
            return past.get(week);
        }
        List<Integer> owners = new ArrayList<>();
        List<Integer> masks = new ArrayList<>();
        for (Player player : all) {
            owners.add(player.owner);
            masks.add(player.mask);
        }
        return new Scene(owners, masks, List.copyOf(places), List.copyOf(rules));
    }

    public int endWeek() {
        state(over && past.size() < 20);
        past.add(scene(past.size()));
        for (Deal deal : deals) {
            if (deal.state == 'w') {
                settle(deal);
            }
        }
        Map<Integer, Integer> ranks = new HashMap<>();
        for (int team = 0; team < purses.size(); team++) {
            ranks.put(team, rank(team));
        }
        Comparator<Claim> order = Comparator.comparing(claim -> -claim.amount());
        order = order.thenComparing(claim -> -ranks.get(claim.team())).thenComparing(Claim::number);
        waiting.sort(order);
        for (Claim claim : waiting) {
            settle(claim);
        }
        waiting.clear();
        return past.size();
    }

    private void settle(Deal deal) {
        Player one = all.get(deal.player);
        Player other = all.get(deal.other);
        if (deal.against.size() > (purses.size() - 2) / 2.0) {
            deal.state = 'v';
        } else if (one.owner != deal.team || other.owner != deal.partner
                || purses.get(deal.team) < deal.amount || purses.get(deal.partner) < -deal.amount) {
            deal.state = 'x';
        } else {
            deal.state = 'd';
            one.owner = deal.partner;
            other.owner = deal.team;
            purses.set(deal.team, purses.get(deal.team) - deal.amount);
            purses.set(deal.partner, purses.get(deal.partner) + deal.amount);
        }
    }

    private void settle(Claim claim) {
        Player player = all.get(claim.player());
        boolean fits = claim.out() == -1 ? roomLeft(claim.team()) > 0 : all.get(claim.out()).owner == claim.team();
        if (player.owner == -1 && purses.get(claim.team()) >= claim.amount() && fits) {
            pay(claim.team(), claim.amount());
            if (claim.out() != -1) {
                all.get(claim.out()).owner = -1;
            }
            player.owner = claim.team();
            player.paid = claim.amount();
        }
    }

    public int week() {
        return past.size();
    }

    public boolean setFinal(int week) {
        argument(within(week, 0, past.size() - 1));
        boolean was = week <= finalUpTo;
        finalUpTo = Math.max(finalUpTo, week);
        return !was;
    }

    public long points(int week, int player) {
        index(isPlayer(player));
        argument(within(week, 0, 19));
        long sum = 0;
        for (int kind = 0; kind < 4; kind++) {
            sum += told.getOrDefault(week + "/" + player + "/" + kind, 0) * (long) scene(week).rules().get(kind);
        }
        return sum;
    }

    public long score(int week, int team) {
        index(isTeam(team));
        argument(within(week, 0, 19));
        return new Choice(week, team).sum();
    }

    public int fills(int week, int team, int player) {
        index(isTeam(team) && isPlayer(player));
        argument(within(week, 0, 19));
        Choice choice = new Choice(week, team);
        element(choice.squad.contains(player));
        return choice.positionOf(player);
    }

    /**
     * A filling as one number: its points, far above them what it takes from players who fill higher positions.
     * So the best filling is the only one with the greatest number.
     */
    private final class Choice {
        private final Scene scene;
        private final int week;
        private final List<Integer> squad = new ArrayList<>();
        private final Map<String, Long> known = new HashMap<>();
        private final Map<String, Integer> steps = new HashMap<>();

        Choice(int week, int team) {
            this.week = week;
            this.scene = scene(week);
            for (int player = 0; player < scene.owners().size(); player++) {
                if (scene.owners().get(player) == team) {
                    squad.add(player);
                }
            }
        }

        private long power(int exponent) {
            return exponent == 0 ? 1 : 5 * power(exponent - 1);
        }

        private long greatest(int from, List<Integer> left) {
            if (from == squad.size()) {
                return 0;
            }
            String key = from + ":" + left;
            Long before = known.get(key);
            if (before != null) {
                return before;
            }
            int player = squad.get(from);
            long weight = power(squad.size() - 1 - from);
            long best = greatest(from + 1, left) - 4 * weight;
            int step = -1;
            for (int position = 3; position >= 0; position--) {
                if ((scene.masks().get(player) & 1 << position) == 0 || left.get(position) == 0) {
                    continue;
                }
                List<Integer> then = new ArrayList<>(left);
                then.set(position, left.get(position) - 1);
                long sum = points(week, player) * power(squad.size()) - position * weight + greatest(from + 1, then);
                if (sum > best) {
                    best = sum;
                    step = position;
                }
            }
            known.put(key, best);
            steps.put(key, step);
            return best;
        }

        int positionOf(int player) {
            List<Integer> left = new ArrayList<>(scene.places());
            greatest(0, left);
            for (int index = 0;; index++) {
                int step = steps.get(index + ":" + left);
                if (squad.get(index) == player) {
                    return step;
                }
                if (step != -1) {
                    left.set(step, left.get(step) - 1);
                }
            }
        }

        long sum() {
            return squad.stream().filter(player -> positionOf(player) != -1).mapToLong(p -> points(week, p)).sum();
        }
    }

    public int result(int week, int team) {
        index(isTeam(team));
        argument(within(week, 0, past.size() - 1));
        element(matches.containsKey(week + "/" + team));
        return 1 + Long.signum(score(week, team) - score(week, matches.get(week + "/" + team)));
    }

    private List<Integer> table() {
        List<Integer> teams = new ArrayList<>();
        Map<Integer, Integer> wins = new HashMap<>();
        Map<Integer, Long> sums = new HashMap<>();
        for (int team = 0; team < purses.size(); team++) {
            teams.add(team);
            wins.put(team, wins(team));
            sums.put(team, sumOf(team));
        }
        Comparator<Integer> order = Comparator.comparing(team -> -wins.get(team));
        teams.sort(order.thenComparing(team -> -sums.get(team)));
        return teams;
    }

    public int rank(int team) {
        index(isTeam(team));
        return table().indexOf(team) + 1;
    }

    public int ranked(int rank) {
        index(within(rank, 1, purses.size()));
        return table().get(rank - 1);
    }

    public int wins(int team) {
        index(isTeam(team));
        int sum = 0;
        for (int week = 0; week < past.size(); week++) {
            sum += matches.containsKey(week + "/" + team) ? result(week, team) : 0;
        }
        return sum;
    }

    public long sumOf(int team) {
        index(isTeam(team));
        long sum = 0;
        for (int week = 0; week < past.size(); week++) {
            sum += score(week, team);
        }
        return sum;
    }

    public int suspects() {
        int found = 0;
        for (int offer = 0; offer < deals.size(); offer++) {
            boolean isDone = deals.get(offer).state == 'd';
            found += isDone && (tradeValue(offer) > 100 || tradeValue(offer) < -100) ? 1 : 0;
        }
        return found;
    }

    public long tradeValue(int offer) {
        index(isOffer(offer));
        Deal deal = deals.get(offer);
        long value = -10L * deal.amount;
        for (int week = 0; week < past.size(); week++) {
            value += points(week, deal.other) - points(week, deal.player);
        }
        return value;
    }

    public long pot() {
        return paidIn;
    }

    public int players() {
        return all.size();
    }

    public float freeShare() {
        if (all.isEmpty()) {
            throw new ArithmeticException();
        }
        return (float) size0(-1) / (float) all.size();
    }

    public double meanScore() {
        if (purses.isEmpty() || past.isEmpty()) {
            throw new ArithmeticException();
        }
        long sum = 0;
        for (int team = 0; team < purses.size(); team++) {
            sum += sumOf(team);
        }
        return (double) sum / (double) (purses.size() * past.size());
    }

    public boolean isSound() {
        int sum = 0;
        for (int team = 0; team < purses.size(); team++) {
            sum += brought.get(team) - purses.get(team);
        }
        return sum == paidIn;
    }
}
