import java.util.function.Predicate;
import java.util.function.ToIntFunction;

/** Runs the cases of a test and counts the answers that are not as due. */
final class Check {
    private int cases = 0;
    private int wrongCases = 0;
    private int looked = 0;
    private int wrong = 0;
    private String current = "outside of all cases";

    /** One case: an ordinary use, or one boundary that a sentence of the document names. */
    void test(String name, Runnable body) {
        int lookedBefore = looked;
        int wrongBefore = wrong;
        current = name;
        cases++;
        try {
            body.run();
        } catch (RuntimeException thrown) {
            tell("threw " + thrown);
        }
        if (looked == lookedBefore) {
            tell("looked at no answer");
        }
        if (wrong != wrongBefore) {
            wrongCases++;
        }
        current = "outside of all cases";
    }

    void due(String call, int got, int want) {
        looked++;
        if (got != want) {
            tell(call + " answered " + got + ", due is " + want);
        }
    }

    void due(String call, boolean got, boolean want) {
        looked++;
        if (got != want) {
            tell(call + " answered " + got + ", due is " + want);
        }
    }

    void same(String what, String got, String want) {
        looked++;
        if (!got.equals(want)) {
            tell(what + " gave \"" + got + "\", due is \"" + want + "\"");
        }
    }

    /** The call answers NONE in the state, and behind it everything is as it is without the call. */
    void refused(State state, String call, ToIntFunction<SeedChainer> refusedCall) {
        for (Probe probe : Probe.values()) {
            SeedChainer x = state.make();
            due(call + " in state " + state, refusedCall.applyAsInt(x), SeedChainer.NONE);
            same(probe + " after " + call + " in state " + state, probe.read(x), probe.read(state.make()));
        }
    }

    void refusedInEveryState(String call, ToIntFunction<SeedChainer> refusedCall) {
        for (State state : State.values()) {
            refused(state, call, refusedCall);
        }
    }

    /** The same of a call that answers false. */
    void deniedInEveryState(String call, Predicate<SeedChainer> deniedCall) {
        refusedInEveryState(call, x -> deniedCall.test(x) ? 1 : SeedChainer.NONE);
    }

    void end() {
        System.out.println(cases + " cases, " + wrongCases + " wrong; " + looked + " answers looked at, " + wrong + " not as due");
        if (wrong != 0 || looked == 0) {
            System.exit(1);
        }
    }

    private void tell(String fault) {
        wrong++;
        System.out.println(current + ": " + fault);
    }
}
