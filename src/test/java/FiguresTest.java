import java.lang.reflect.Field;

/** Promises 36 to 42: figures, collusion, and whether all is sound. */
public final class FiguresTest {
    private static final Check CHECK = new Check();

    public static void main(String[] args) throws ReflectiveOperationException {
        tradeValue();
        tradeValueRefused();
        suspects();
        onlyDoneTradesAreSuspect();
        potAndPlayers();
        freeShare();
        meanScore();
        isSound();
        CHECK.finish();
    }

    private static void tradeValue() {
        DraftLeague x = Leagues.played();
        x.offer(0, 0, 1, 3);
        x.offer(1, 1, 0, -3);
        CHECK.due("37 open, of weeks ahead of it", x.tradeValue(0), 12 - 20 - 30);
        CHECK.due("37 the other way", x.tradeValue(1), 20 - 12 + 30);
        x.did(1, 1, 0, 10);
        CHECK.due("37 not the running week", x.tradeValue(0), -38);
        x.accept(0);
        x.endWeek();
        CHECK.due("37 done, all weeks", x.tradeValue(0), 12 + 40 - 20 - 30);
        x.did(0, 0, 0, 0);
        CHECK.due("37 as told now", x.tradeValue(0), 12 + 40 - 30);
        x.did(1, 0, 3, 99);
        CHECK.due("37 less than nothing", x.tradeValue(0), 12 + 40 + 198 - 30);
        x.setRule(0, 9);
        CHECK.due("37 rules of then", x.tradeValue(0), 220);
    }

    private static void tradeValueRefused() {
        CHECK.refused("37 no offer", Leagues.INDEX, Leagues::played, y -> y.tradeValue(0));
        CHECK.refused("37 offer -1", Leagues.INDEX, FiguresTest::traded, y -> y.tradeValue(-1));
        CHECK.refused("37 offer 1", Leagues.INDEX, FiguresTest::traded, y -> y.tradeValue(1));
    }

    /** Player 0 of team 0 went for player 1 of team 1, for no money; the week 0 is over. */
    private static DraftLeague traded() {
        DraftLeague x = Leagues.drafted();
        x.accept(x.offer(0, 0, 1, 0));
        x.endWeek();
        return x;
    }

    private static void suspects() {
        DraftLeague x = traded();
        CHECK.due("36 none", x.suspects(), 0);
        x.did(0, 1, 0, 25);
        CHECK.due("36 just 100", x.suspects(), 0);
        x.did(0, 1, 1, 1);
        CHECK.due("36 101", x.suspects(), 1);
        x.did(0, 0, 1, 2);
        CHECK.due("36 corrected", x.suspects(), 0);
        x.did(0, 0, 0, 50);
        CHECK.due("36 -101", x.suspects(), 1);
        x.did(0, 0, 1, 1);
        CHECK.due("36 just -100", x.suspects(), 0);
        DraftLeague paid = Leagues.drafted();
        paid.accept(paid.offer(0, 0, 1, 11));
        paid.accept(paid.offer(2, 2, 4, -11));
        paid.endWeek();
        CHECK.due("36 by money alone", paid.suspects(), 2);
    }

    private static void onlyDoneTradesAreSuspect() {
        DraftLeague x = Leagues.drafted();
        x.offer(0, 0, 1, 30);
        x.offer(0, 3, 2, 30);
        x.offer(0, 3, 4, 20);
        CHECK.due("36 open", x.suspects(), 0);
        x.accept(0);
        x.accept(1);
        x.veto(1, 1);
        x.accept(2);
        CHECK.due("36 waiting", x.suspects(), 0);
        x.endWeek();
        CHECK.due("36 a vetoed and a void one count nothing", x.suspects(), 1);
    }

    private static void potAndPlayers() {
        DraftLeague x = Leagues.sold();
        CHECK.due("38 the auction", x.pot(), 35);
        x.endDraft();
        x.claim(0, 5, -1, 4);
        CHECK.due("38 a claim pays at the end", x.pot(), 35);
        x.accept(x.offer(0, 0, 1, 9));
        x.endWeek();
        CHECK.due("38 claims, but no trades", x.pot(), 39);
        CHECK.due("38 a running auction", Leagues.running().pot(), 0);
        CHECK.due("39 players", x.players(), 7);
        CHECK.due("39 none", new DraftLeague().players(), 0);
    }

    private static void freeShare() {
        CHECK.due("40 some", Leagues.sold().freeShare(), 2f / 7f);
        CHECK.due("40 all", Leagues.ready().freeShare(), 1f);
        CHECK.due("40 none", noneFree().freeShare(), 0f);
        DraftLeague x = Leagues.drafted();
        x.claim(0, 5, -1, 4);
        x.endWeek();
        CHECK.due("40 behind a claim", x.freeShare(), 1f / 7f);
        CHECK.refused("40 no players", Leagues.ARITHMETIC, Leagues::empty, y -> y.freeShare());
    }

    private static DraftLeague noneFree() {
        DraftLeague x = Leagues.plain(1, 9, 1);
        x.nominate(0, 0, 2);
        x.knock();
        return x;
    }

    private static void meanScore() {
        DraftLeague x = Leagues.played();
        CHECK.due("41 one week", x.meanScore(), 40.0 / 3.0);
        x.did(1, 0, 1, 1);
        CHECK.due("41 not the running week", x.meanScore(), 40.0 / 3.0);
        x.endWeek();
        CHECK.due("41 two weeks", x.meanScore(), 41.0 / 6.0);
        x.did(0, 2, 0, 0);
        CHECK.due("41 corrected", x.meanScore(), 33.0 / 6.0);
        DraftLeague once = Leagues.weeksOver(3);
        once.did(0, 0, 1, 11);
        CHECK.due("41 divided once, by 3 times 3", once.meanScore(), 11.0 / 9.0);
        CHECK.refused("41 no weeks", Leagues.ARITHMETIC, Leagues::drafted, y -> y.meanScore());
        CHECK.refused("41 neither", Leagues.ARITHMETIC, Leagues::empty, y -> y.meanScore());
        CHECK.refused("41 no teams", Leagues.ARITHMETIC, FiguresTest::weekWithoutTeams, y -> y.meanScore());
    }

    private static DraftLeague weekWithoutTeams() {
        DraftLeague x = new DraftLeague();
        x.endDraft();
        x.endWeek();
        return x;
    }

    private static void isSound() throws ReflectiveOperationException {
        CHECK.due("42 in the draft", Leagues.running().isSound(), true);
        DraftLeague x = traded();
        x.claim(0, 5, 1, 7);
        x.claim(1, 6, -1, 7);
        x.endWeek();
        CHECK.due("42 behind all moves", x.isSound(), true);
        int[] money = (int[]) inside(inside(x, "purse"), "money");
        money[0]--;
        CHECK.due("42 money is missing", x.isSound(), false);
        money[1]++;
        CHECK.due("42 money sums", x.isSound(), true);
        int all = money[0] + 1;
        money[0] -= all;
        money[1] += all;
        CHECK.due("42 a team has less than 0", x.isSound(), false);
        money[0] += all;
        money[1] -= all;
        int[] owners = ((int[][]) inside(inside(x, "roster"), "owners"))[x.week()];
        owners[2] = 1;
        CHECK.due("42 a player whom no move gave", x.isSound(), false);
        owners[2] = 2;
        CHECK.due("42 as it was", x.isSound(), true);
        owners[0] = -1;
        CHECK.due("42 the first player", x.isSound(), false);
        owners[0] = 1;
        owners[1] = 0;
        CHECK.due("42 a player who has gone", x.isSound(), false);
    }

    /** Only by force can a league be brought out of order: no call of its face does. */
    private static Object inside(Object object, String name) throws ReflectiveOperationException {
        Field field = object.getClass().getDeclaredField(name);
        field.setAccessible(true);
        return field.get(object);
    }
}
