import java.util.function.Supplier;

/**
 * That a refused call changes nothing is asked by Aftermath: here each call that changes something is made, once,
 * and has to be seen by it.
 */
public final class AftermathTest {
    private static final Check CHECK = new Check();

    public static void main(String[] args) {
        seesTheSetup();
        seesTheDraft();
        seesTheMarket();
        seesTheSeason();
        seesNoQuestions();
        CHECK.finish();
    }

    private static boolean differs(Supplier<DraftLeague> setting, Check.Deed deed) {
        DraftLeague league = setting.get();
        deed.on(league);
        return !Aftermath.of(league).equals(Aftermath.of(setting.get()));
    }

    private static void seen(String call, Supplier<DraftLeague> setting, Check.Deed deed) {
        CHECK.due(call + " is seen", differs(setting, deed), true);
    }

    private static void seesTheSetup() {
        seen("addTeam", Leagues::empty, x -> x.addTeam(0));
        seen("addPlayer", Leagues::empty, x -> x.addPlayer(1, 1));
        seen("setPositions", Leagues::ready, x -> x.setPositions(6, 14));
        for (int number = 0; number < 4; number++) {
            int position = number;
            seen("setPlaces", Leagues::ready, x -> x.setPlaces(position, 2));
            seen("setRule", Leagues::ready, x -> x.setRule(position, 3));
        }
        seen("setBench", Leagues::ready, x -> x.setBench(4));
    }

    private static void seesTheDraft() {
        seen("nominate", Leagues::ready, x -> x.nominate(0, 0, 2));
        seen("another player up", Leagues::ready, x -> x.nominate(0, 1, 2));
        seen("bid", Leagues::running, x -> x.bid(1, 6));
        seen("proxy", Leagues::ready, x -> x.proxy(2, 6, 1));
        seen("proxy for who is up", Leagues::running, x -> x.proxy(2, 0, 6));
        seen("knock", Leagues::running, x -> x.knock());
        seen("endDraft", Leagues::ready, x -> x.endDraft());
    }

    private static void seesTheMarket() {
        seen("claim", Leagues::drafted, x -> x.claim(0, 5, -1, 0));
        seen("claim for another", Leagues::drafted, x -> x.claim(0, 5, 3, 0));
        seen("offer", Leagues::drafted, x -> x.offer(0, 0, 1, 0));
        seen("accept", Leagues::offered, x -> x.accept(0));
        seen("veto", Leagues::accepted, x -> x.veto(0, 2));
    }

    private static void seesTheSeason() {
        seen("meet", Leagues::drafted, x -> x.meet(0, 0, 2));
        seen("meet in the last week", Leagues::drafted, x -> x.meet(19, 0, 2));
        seen("did", Leagues::drafted, x -> x.did(0, 6, 1, 1));
        seen("did in the last week", Leagues::drafted, x -> x.did(19, 6, 1, 1));
        seen("endWeek", Leagues::drafted, x -> x.endWeek());
        seen("setFinal", Leagues::played, x -> x.setFinal(0));
    }

    /** Calls that only ask leave all as it was. */
    private static void seesNoQuestions() {
        Supplier<DraftLeague> setting = () -> {
            DraftLeague x = Leagues.played();
            x.accept(x.offer(0, 0, 1, 4));
            x.claim(2, 5, -1, 3);
            return x;
        };
        CHECK.due("questions are not seen", differs(setting, x -> Portrait.of(x)), false);
        CHECK.due("questions in the draft are not seen", differs(Leagues::running, x -> Portrait.of(x)), false);
        CHECK.due("a league like another is not seen", differs(setting, x -> { }), false);
    }
}
