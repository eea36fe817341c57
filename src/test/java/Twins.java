import java.util.function.Consumer;
import java.util.function.ToLongFunction;

/**
 * Holds an object on which an act was done against a twin on which it was not: so that it is seen
 * that an act which answers a finding changes nothing but what status() tells, and one which only
 * asks nothing at all.
 */
final class Twins {
    /** An act with one of its arguments left open. */
    interface Act {
        long on(PeasDrum x, int v);
    }

    private final Check check;

    Twins(Check check) {
        this.check = check;
    }

    void refused(String what, Consumer<PeasDrum> before, ToLongFunction<PeasDrum> act, int finding) {
        PeasDrum x = made(before);
        int[] due = status(x);
        due[0]++;
        due[1 + Check.BEYOND - finding]++;
        check.due(what, act.applyAsLong(x), finding);
        sameAsTwin(what, x, due, made(before));
    }

    void asks(String what, Consumer<PeasDrum> before, ToLongFunction<PeasDrum> act, long due) {
        PeasDrum x = made(before);
        int[] status = status(x);
        check.due(what, act.applyAsLong(x), due);
        sameAsTwin(what, x, status, made(before));
    }

    /** The act answers no finding (what it answers else is looked at elsewhere). */
    void taken(String what, Consumer<PeasDrum> before, ToLongFunction<PeasDrum> act) {
        PeasDrum x = made(before);
        int findings = x.status(-1);
        long answer = act.applyAsLong(x);
        check.isTrue(what + " is no finding, but " + answer, answer > Check.BEYOND);
        check.due(what + ", status(-1)", x.status(-1), findings);
    }

    /** An argument may be from least to most; just outside, and far off, the act answers BEYOND. */
    void range(String what, Consumer<PeasDrum> before, int least, int most, Act act) {
        taken(what + " " + least, before, x -> act.on(x, least));
        taken(what + " " + most, before, x -> act.on(x, most));
        beyond(what, before, act, least - 1, most + 1, Integer.MIN_VALUE, Integer.MAX_VALUE);
        // Those that would be right if only their lowest bits counted.
        for (int wrap = 64; wrap < 1 << 30; wrap *= 4) {
            if (least + wrap > most) {
                beyond(what, before, act, least + wrap);
            }
        }
    }

    void beyond(String what, Consumer<PeasDrum> before, Act act, int... values) {
        for (int v : values) {
            refused(what + " " + v, before, x -> act.on(x, v), Check.BEYOND);
        }
    }

    private static PeasDrum made(Consumer<PeasDrum> before) {
        PeasDrum x = new PeasDrum();
        before.accept(x);
        return x;
    }

    private static int[] status(PeasDrum x) {
        int[] told = new int[8];
        for (int which = -1; which < 7; which++) {
            told[which + 1] = x.status(which);
        }
        return told;
    }

    private void sameAsTwin(String what, PeasDrum x, int[] statusDue, PeasDrum twin) {
        int[] status = status(x);
        for (int which = -1; which < 7; which++) {
            check.due(what + ", then status(" + which + ")", status[which + 1], statusDue[which + 1]);
        }
        String was = Look.atAll(twin);
        String is = Look.atAll(x);
        check.isTrue(what + ": nothing changes: '" + was + "' but '" + is + "'", was.equals(is));
    }
}
