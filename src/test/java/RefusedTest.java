import java.util.ArrayList;
import java.util.List;

/**
 * "A method that throws an exception changes nothing. If several exceptions apply, the one that is named first is
 * thrown." Every call with every mixture of arguments at, beside and far from their limits: what the document
 * refuses is refused by the right exception, and the siege goes on as one that never had the refused calls.
 */
public final class RefusedTest {
    /** So many refused calls on one object, which with all others on it are less than 512. */
    private static final int CALLS = 100;

    private static final Class<?> OUTSIDE = IndexOutOfBoundsException.class;
    private static final Class<?> ARGUMENT = IllegalArgumentException.class;
    private static final Class<?> STATE = IllegalStateException.class;

    private RefusedTest() {
    }

    /** A parameter: its least and greatest value, and what is thrown for another one. */
    private record Limits(int least, int most, Class<?> thrown) {
    }

    interface Caller {
        void call(SapperWar war, int[] arguments);
    }

    /** What the siege itself refuses, with arguments within their limits; asked on a siege of its own. */
    interface Refuses {
        boolean test(SapperWar probe, int[] arguments);
    }

    private static final Refuses NEVER = (probe, a) -> false;

    public static void main(String[] args) {
        onTheMap();
        withTeams();
        ofTheEightTeams();
        withHours();
        ways();
        lookingAhead();
        onThePaper();
        Check.end();
    }

    private static Limits outside(int least, int most) {
        return new Limits(least, most, OUTSIDE);
    }

    private static Limits argument(int least, int most) {
        return new Limits(least, most, ARGUMENT);
    }

    private static SapperWar eightTeams() {
        SapperWar war = Check.busy();
        war.come(0, 11, 11, 9, 5);
        war.come(1, 9, 0, 1, 1);
        war.come(0, 0, 2, 3, 2);
        return war;
    }

    private static SapperWar fullTape() {
        SapperWar war = Check.busy();
        war.feed(-1, 0, 0x33333333, 1, 2);
        war.feed(-1, 0, 0x33333333, 1, 2);
        war.trim(190);
        return war;
    }

    private static void onTheMap() {
        Limits[] any = new Limits[5];
        for (int i = 0; i < 5; i++) {
            any[i] = argument(Integer.MIN_VALUE, Integer.MAX_VALUE);
        }
        sweep("feed", RefusedTest::fullTape, (war, a) -> war.feed(a[0], a[1], a[2], a[3], a[4]), (probe, a) -> true, any);
        sweep("trim", Check::busy, (war, a) -> war.trim(a[0]), NEVER, argument(0, 156));
        sweep("trim of the empty tape", SapperWar::new, (war, a) -> war.trim(a[0]), NEVER, argument(0, 0));
        sweep("openAt", Check::busy, (war, a) -> war.openAt(a[0], a[1]),
                (probe, a) -> probe.cell(a[0], a[1], 0) == 0 || probe.cell(a[0], a[1], 2) == 1,
                outside(0, 11), outside(0, 11));
        sweep("cell", Check::busy, (war, a) -> war.cell(a[0], a[1], a[2]), NEVER,
                outside(0, 11), outside(0, 11), outside(0, 7));
    }

    private static void withTeams() {
        Limits[] come = {argument(0, 1), outside(0, 11), outside(0, 11), argument(1, 9), argument(1, 5)};
        sweep("come", Check::busy, (war, a) -> war.come(a[0], a[1], a[2], a[3], a[4]),
                (probe, a) -> probe.cell(a[1], a[2], 2) == 0, come);
        sweep("order", Check::busy, (war, a) -> war.order(a[0], a[1], a[2], a[3]),
                (probe, a) -> probe.team(a[0], 3) == 0 || probe.team(a[0], 5) == 12,
                outside(0, 4), argument(0, 6), argument(0, 3), argument(1, 20));
        sweep("clear", Check::busy, (war, a) -> war.clear(a[0]), NEVER, outside(0, 4));
        sweep("team", Check::busy, (war, a) -> war.team(a[0], a[1]), NEVER, outside(0, 4), outside(0, 9));
        sweep("heard", Check::busy, (war, a) -> war.heard(a[0], a[1]), NEVER, outside(0, 4), outside(0, 2));
    }

    private static void ofTheEightTeams() {
        Limits[] come = {argument(0, 1), outside(0, 11), outside(0, 11), argument(1, 9), argument(1, 5)};
        sweep("come, with 8", RefusedTest::eightTeams, (war, a) -> war.come(a[0], a[1], a[2], a[3], a[4]),
                (probe, a) -> true, come);
        sweep("order, with 8", RefusedTest::eightTeams, (war, a) -> war.order(a[0], 0, 0, 1),
                (probe, a) -> probe.team(a[0], 3) == 0 || probe.team(a[0], 5) == 12, outside(0, 7));
        sweep("team, with 8", RefusedTest::eightTeams, (war, a) -> war.team(a[0], 0), NEVER, outside(0, 7));
        sweep("lasts, with 8", RefusedTest::eightTeams, (war, a) -> war.lasts(a[0]), NEVER, outside(0, 7));
        // With no team at all each number is too great.
        sweep("order, with none", SapperWar::new, (war, a) -> war.order(a[0], a[1], 0, 1), NEVER, outside(0, -1),
                argument(0, 6));
        sweep("clear, with none", SapperWar::new, (war, a) -> war.clear(a[0]), NEVER, outside(0, -1));
        sweep("team, with none", SapperWar::new, (war, a) -> war.team(a[0], 0), NEVER, outside(0, -1));
        sweep("heard, with none", SapperWar::new, (war, a) -> war.heard(a[0], 0), NEVER, outside(0, -1));
        sweep("reach, with none", SapperWar::new, (war, a) -> war.reach(a[0], 0, 0), NEVER, outside(0, -1));
        sweep("target, with none", SapperWar::new, (war, a) -> war.target(a[0]), NEVER, outside(0, -1));
        sweep("lasts, with none", SapperWar::new, (war, a) -> war.lasts(a[0]), NEVER, outside(0, -1));
        sweep("advise, with none", SapperWar::new, (war, a) -> war.advise(a[0], a[1]), NEVER, outside(0, -1),
                argument(1, 60));
    }

    private static void withHours() {
        sweep("pass", Check::busy, (war, a) -> war.pass(a[0]), NEVER, argument(1, 200));
        sweep("count", Check::busy, (war, a) -> war.count(a[0]), NEVER, outside(0, 11));
    }

    private static void ways() {
        sweep("way", Check::busy, (war, a) -> war.way(a[0], a[1], a[2], a[3]), NEVER,
                outside(0, 11), outside(0, 11), outside(0, 11), outside(0, 11));
        sweep("reach", Check::busy, (war, a) -> war.reach(a[0], a[1], a[2]), NEVER,
                outside(0, 4), outside(0, 11), outside(0, 11));
        sweep("target", Check::busy, (war, a) -> war.target(a[0]), NEVER, outside(0, 4));
    }

    private static void lookingAhead() {
        sweepBy("foresee", Check::busy, (war, a) -> war.foresee(a[0], a[1]), NEVER, List.of(ARGUMENT, OUTSIDE),
                argument(1, 150), outside(0, 3));
        sweep("falls", Check::busy, (war, a) -> war.falls(a[0], a[1]), NEVER, outside(0, 11), outside(0, 11));
        sweep("lasts", Check::busy, (war, a) -> war.lasts(a[0]), NEVER, outside(0, 4));
        sweep("advise", Check::busy, (war, a) -> war.advise(a[0], a[1]), NEVER, outside(0, 4), argument(1, 60));
    }

    private static void onThePaper() {
        sweep("byteAt", Check::busy, (war, a) -> war.byteAt(a[0]), NEVER, outside(0, 155));
        sweep("byteAt, with nothing drawn", SapperWar::new, (war, a) -> war.byteAt(a[0]), NEVER, outside(0, -1));
    }

    private static void sweep(String what, Check.Maker maker, Caller caller, Refuses refuses, Limits... limits) {
        sweepBy(what, maker, caller, refuses, List.of(OUTSIDE, ARGUMENT, STATE), limits);
    }

    private static void sweepBy(String what, Check.Maker maker, Caller caller, Refuses refuses, List<Class<?>> names,
            Limits... limits) {
        SapperWar probe = maker.make();
        int probed = 0;
        List<int[]> refused = new ArrayList<>();
        List<Class<?>> due = new ArrayList<>();
        for (int[] arguments : mixtures(limits)) {
            Class<?> thrown = thrownFor(arguments, names, limits);
            if (thrown == null) {
                // An object is good for 512 calls.
                probed++;
                probe = probed % 200 == 0 ? maker.make() : probe;
                thrown = refuses.test(probe, arguments) ? STATE : null;
            }
            if (thrown != null) {
                refused.add(arguments);
                due.add(thrown);
            } else {
                dueTaken(what, maker, caller, arguments);
            }
        }
        if (refused.isEmpty()) {
            Check.wrong(what + " has nothing to refuse");
        }
        for (int from = 0; from < refused.size(); from += CALLS) {
            SapperWar war = maker.make();
            for (int i = from; i < Math.min(from + CALLS, refused.size()); i++) {
                int[] arguments = refused.get(i);
                Check.dueThrown(text(what, arguments), war, due.get(i), () -> caller.call(war, arguments));
            }
            Check.dueSame(what + ", behind the refused calls from the " + from + "th on", war, maker.make());
        }
    }

    private static void dueTaken(String what, Check.Maker maker, Caller caller, int[] arguments) {
        try {
            caller.call(maker.make(), arguments);
        } catch (RuntimeException e) {
            Check.wrong(text(what, arguments) + " is within the limits, and threw " + e.getClass());
        }
    }

    private static Class<?> thrownFor(int[] arguments, List<Class<?>> names, Limits[] limits) {
        for (Class<?> name : names) {
            for (int i = 0; i < limits.length; i++) {
                boolean within = arguments[i] >= limits[i].least && arguments[i] <= limits[i].most;
                if (!within && limits[i].thrown == name) {
                    return name;
                }
            }
        }
        return null;
    }

    private static List<int[]> mixtures(Limits[] limits) {
        List<int[]> mixtures = new ArrayList<>();
        mixtures.add(new int[limits.length]);
        for (int place = 0; place < limits.length; place++) {
            List<int[]> longer = new ArrayList<>();
            for (int[] mixture : mixtures) {
                for (int value : edges(limits[place])) {
                    int[] next = mixture.clone();
                    next[place] = value;
                    longer.add(next);
                }
            }
            mixtures = longer;
        }
        return mixtures;
    }

    /** The limits, what is beside them, and what is far from them; each once. */
    private static List<Integer> edges(Limits limits) {
        List<Integer> edges = new ArrayList<>();
        long[] values = {Integer.MIN_VALUE, limits.least - 1L, limits.least, limits.most, limits.most + 1L,
            Integer.MAX_VALUE};
        for (long value : values) {
            int fitting = (int) Math.max(Integer.MIN_VALUE, Math.min(Integer.MAX_VALUE, value));
            if (!edges.contains(fitting)) {
                edges.add(fitting);
            }
        }
        return edges;
    }

    private static String text(String what, int[] arguments) {
        StringBuilder text = new StringBuilder(what).append('(');
        for (int i = 0; i < arguments.length; i++) {
            text.append(i == 0 ? "" : ", ").append(arguments[i]);
        }
        return text.append(')').toString();
    }
}
