import java.lang.reflect.InvocationTargetException;
import java.lang.reflect.Method;
import java.util.Arrays;
import java.util.Map;
import java.util.TreeMap;

/** Runs of 512 calls: the league and the slow model of the document always answer the same. */
public final class RandomRunsTest {
    private static final int RUNS = 800;
    private static final int CALLS = 512;
    private static final String[] LOOKS = {"ownerOf", "paidFor", "money", "size", "offerState", "week", "points",
        "score", "fills", "result", "rank", "ranked", "wins", "sumOf", "suspects", "tradeValue", "pot", "players",
        "freeShare", "meanScore", "isSound", "turnOf"};
    private static final String[] DEEDS = {"addPlayer", "setPositions", "setPlaces", "setBench", "setRule", "meet",
        "did", "did", "did", "setFinal", "addTeam"};
    private static final String[] NONE_UP = {"nominate", "nominate", "nominate", "nominate", "nominate", "nominate",
        "nominate", "proxy", "bid", "knock"};
    private static final String[] ONE_UP = {"knock", "knock", "knock", "bid", "bid", "proxy", "proxy", "nominate"};
    private static final String[] SEASON = {"claim", "claim", "claim", "offer", "offer", "offer", "accept", "accept",
        "veto", "veto", "meet", "endWeek", "did"};

    private static final Map<String, Method> LEAGUE = methodsOf(DraftLeague.class);
    private static final Map<String, Method> MODEL = methodsOf(Model.class);

    /** How often each method gave each kind of answer. */
    private final Map<String, Integer> seen = new TreeMap<>();
    private Dice dice;
    private DraftLeague league;
    private Model model;
    private boolean draftOver;
    private int up;
    private int weeks;
    private int teams;
    private int players;
    private int offers;
    private int wild;

    public static void main(String[] args) {
        RandomRunsTest test = new RandomRunsTest();
        for (int run = 0; run < RUNS; run++) {
            test.run(run);
        }
        test.requireAllSeen();
    }

    private static Map<String, Method> methodsOf(Class<?> type) {
        Map<String, Method> methods = new TreeMap<>();
        for (Method method : type.getDeclaredMethods()) {
            if (java.lang.reflect.Modifier.isPublic(method.getModifiers())) {
                methods.put(method.getName(), method);
            }
        }
        return methods;
    }

    private void run(int seed) {
        dice = new Dice(seed);
        league = new DraftLeague();
        model = new Model();
        draftOver = false;
        up = -1;
        weeks = 0;
        teams = 0;
        players = 0;
        offers = 0;
        wild = dice.from(0, 8);
        int before = setUp(seed);
        int draftCalls = before + dice.from(10, 250);
        int pace = dice.from(0, 5);
        for (int call = before; call < CALLS; call++) {
            if (!draftOver && call > draftCalls) {
                make(seed, "knock");
                make(seed, "endDraft");
                call++;
            } else {
                make(seed, nextName(pace));
            }
        }
    }

    private int setUp(int seed) {
        int money = dice.from(0, 3) == 0 ? 30 : 500;
        int count = dice.from(0, 8);
        for (int team = 0; team < count; team++) {
            make(seed, "addTeam", dice.from(money / 3, money));
        }
        int all = dice.from(4, dice.chance(50) ? 12 : 50);
        if (dice.chance(8)) {
            all = dice.chance(50) ? 0 : 60;
        }
        for (int player = 0; player < all; player++) {
            make(seed, "addPlayer", dice.from(1, 15), dice.from(1, dice.chance(90) ? 4 : 60));
        }
        return count + all;
    }

    private String nextName(int pace) {
        int kind = dice.from(0, 9);
        if (kind < 3) {
            return pick(LOOKS);
        }
        if (kind == 3) {
            return pick(DEEDS);
        }
        if (!draftOver) {
            return dice.chance(1) ? "endDraft" : pick(up == -1 ? NONE_UP : ONE_UP);
        }
        String name = pick(SEASON);
        return name.equals("endWeek") && dice.chance(15 * pace) ? "did" : name;
    }

    private String pick(String[] names) {
        return names[dice.from(0, names.length - 1)];
    }

    private void make(int seed, String name) {
        Class<?>[] types = LEAGUE.get(name).getParameterTypes();
        int[] numbers = new int[types.length];
        choose(name, numbers);
        for (int index = 0; index < numbers.length; index++) {
            if (dice.chance(wild)) {
                numbers[index] = wildNumber();
            }
        }
        make(seed, name, numbers);
    }

    private int wildNumber() {
        int[] numbers = {-1, -2, 0, 1, 4, 8, 16, 20, 30, 60, 100, 501, Integer.MIN_VALUE, Integer.MAX_VALUE};
        return numbers[dice.from(0, numbers.length - 1)];
    }

    private int team() {
        return dice.from(0, Math.max(0, teams - 1));
    }

    private int player() {
        return dice.from(0, Math.max(0, players - 1));
    }

    private int offer() {
        return dice.from(offers < 4 || dice.chance(30) ? 0 : offers - 4, Math.max(0, offers - 1));
    }

    private int week() {
        return dice.chance(70) ? dice.from(Math.max(0, weeks - 2), Math.min(19, weeks)) : dice.from(0, 19);
    }

    private int ownPlayer(int team) {
        int first = player();
        for (int step = 0; step < players; step++) {
            int player = (first + step) % players;
            if (model.ownerOf(player) == team) {
                return player;
            }
        }
        return first;
    }

    private void set(int[] numbers, int... values) {
        System.arraycopy(values, 0, numbers, 0, numbers.length);
    }

    private void choose(String name, int[] n) {
        int team = team();
        switch (name) {
            case "addTeam" -> set(n, dice.from(0, 500));
            case "addPlayer" -> set(n, dice.from(1, 15), dice.from(1, 99));
            case "setPositions" -> set(n, player(), dice.from(1, 15));
            case "setPlaces" -> set(n, dice.from(0, 3), dice.from(0, 3));
            case "setBench" -> set(n, dice.from(0, 6));
            case "setRule" -> set(n, dice.from(0, 3), dice.from(-9, 9));
            case "nominate" -> set(n, turn(), dice.chance(90) ? ownPlayer(-1) : player(), dice.from(2, 9));
            case "bid" -> set(n, team, dice.from(1, dice.chance(80) ? 12 : 60));
            case "proxy" -> set(n, team, up != -1 && dice.chance(60) ? up : player(),
                    dice.from(0, dice.chance(80) ? 15 : 600));
            case "claim" -> set(n, team, dice.chance(60) ? lowFree() : player(),
                    dice.chance(50) ? -1 : ownPlayer(team), dice.from(0, 3));
            case "offer" -> set(n, team, ownPlayer(team), ownPlayer(team()), dice.from(-12, 12));
            case "accept", "offerState", "tradeValue" -> set(n, offer());
            case "veto" -> set(n, waitingOffer(), team);
            case "meet" -> set(n, week(), team, team());
            case "did" -> set(n, week(), player(), dice.from(0, 3), dice.from(0, dice.chance(80) ? 3 : 99));
            case "points" -> set(n, week(), player());
            case "score", "result" -> set(n, week(), team);
            case "fills" -> set(n, week(), team, ownPlayer(team));
            case "setFinal" -> set(n, dice.chance(90) ? dice.from(0, Math.max(0, weeks - 4)) : week());
            case "ownerOf", "paidFor" -> set(n, player());
            case "ranked" -> set(n, team + 1);
            case "money", "size", "rank", "wins", "sumOf" -> set(n, team);
            default -> set(n);
        }
    }

    private int waitingOffer() {
        int first = offer();
        for (int step = 0; step < offers; step++) {
            int offer = (first + step) % offers;
            if (model.offerState(offer) == 'w') {
                return offer;
            }
        }
        return first;
    }

    /** Several teams should claim the same player. */
    private int lowFree() {
        for (int player = 0; player < players; player++) {
            if (model.ownerOf(player) == -1 && dice.chance(60)) {
                return player;
            }
        }
        return player();
    }

    private int turn() {
        try {
            return dice.chance(95) ? model.turnOf() : team();
        } catch (RuntimeException e) {
            return team();
        }
    }

    private void make(int seed, String name, int... numbers) {
        Object[] boxed = Arrays.stream(numbers).boxed().toArray();
        Object got = answer(LEAGUE.get(name), league, boxed);
        Object due = answer(MODEL.get(name), model, boxed);
        if (!got.equals(due)) {
            System.out.println("seed " + seed + ": " + name + Arrays.toString(numbers) + " answered " + got
                    + ", due is " + due);
            System.exit(1);
        }
        String kind = got instanceof Class<?> thrown ? thrown.getSimpleName() : "an answer";
        seen.merge(name + " " + (got instanceof Character ? got : kind), 1, Integer::sum);
        remember(name, numbers, got);
    }

    private static Object answer(Method method, Object target, Object[] numbers) {
        try {
            return method.invoke(target, numbers);
        } catch (InvocationTargetException e) {
            return e.getCause().getClass();
        } catch (IllegalAccessException e) {
            throw new IllegalStateException(e);
        }
    }

    private void remember(String name, int[] numbers, Object got) {
        if (got instanceof Class) {
            return;
        }
        switch (name) {
            case "addTeam" -> teams++;
            case "addPlayer" -> players++;
            case "offer" -> offers++;
            case "endWeek" -> weeks++;
            case "nominate" -> up = numbers[1];
            case "knock" -> up = -1;
            case "endDraft" -> draftOver = true;
            default -> { }
        }
    }

    /** Each method answers, and throws each exception that its head names, in some run; so do all states. */
    private void requireAllSeen() {
        int missing = 0;
        for (Method method : LEAGUE.values()) {
            if (method.getReturnType() != char.class) {
                missing += isMissing(method.getName() + " an answer");
            }
            for (Class<?> type : method.getExceptionTypes()) {
                missing += isMissing(method.getName() + " " + type.getSimpleName());
            }
        }
        for (char state : "owdvx".toCharArray()) {
            missing += isMissing("offerState " + state);
        }
        if (missing != 0) {
            System.exit(1);
        }
    }

    private int isMissing(String what) {
        if (seen.containsKey(what)) {
            return 0;
        }
        System.out.println("no run has seen: " + what);
        return 1;
    }
}
