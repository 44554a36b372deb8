/**
 * Long runs of made-up calls, always the same ones: only the document's exceptions are thrown, a call that
 * throws or only tells changes nothing, and what is foreseen is what comes.
 */
public final class RunsTest {
    private static final int RUNS = 500;
    /** With the digests between them, and what a map takes, these are less than the 512 that an object is good for. */
    private static final int CALLS = 110;
    /** Allowed exceptions by call: 1 IndexOutOfBounds, 2 IllegalArgument, 4 IllegalState; 8 if it changes nothing ever. */
    private static final int[] RULES = {4, 2, 0, 1 + 4, 1 + 8, 1 + 2 + 4, 1 + 2 + 4, 1, 1 + 8, 1 + 8, 2, 1 + 8, 1 + 8,
        1 + 8, 1 + 8, 1 + 2 + 8, 1 + 8, 1 + 8, 1 + 2 + 8, 0, 1 + 8, 8, 8};
    private static long seed = 1;

    private RunsTest() {
    }

    public static void main(String[] args) {
        for (int run = 0; run < RUNS; run++) {
            longRun(run);
            foreseenRun(run);
        }
        Check.end();
    }

    private static int below(int bound) {
        seed = seed * 6364136223846793005L + 1442695040888963407L;
        return (int) ((seed >>> 33) % bound);
    }

    /** Mostly 0 to bound - 1, now and then beside it or far away. */
    private static int near(int bound) {
        switch (below(40)) {
            case 0:
                return -1;
            case 1:
                return bound;
            case 2:
                return below(2) == 0 ? Integer.MIN_VALUE : Integer.MAX_VALUE;
            default:
                return below(bound);
        }
    }

    private static void longRun(int run) {
        SapperWar war = below(2) == 0 ? madeUpSiege() : new SapperWar();
        long before = war.digest();
        for (int i = 0; i < CALLS; i++) {
            int which = below(RULES.length);
            int thrown = 0;
            try {
                call(war, which);
            } catch (RuntimeException e) {
                thrown = kindOf(e);
            }
            String what = "run " + run + ", call " + i + ", of the kind " + which;
            if (thrown < 0 || (thrown & RULES[which]) != thrown) {
                Check.wrong(what + " threw what it may not, " + thrown);
            }
            long behind = war.digest();
            if (thrown != 0 || (RULES[which] & 8) != 0) {
                Check.due(what + ", the digest behind it", behind, before);
            }
            before = behind;
        }
    }

    private static int kindOf(RuntimeException e) {
        if (e.getClass() == IndexOutOfBoundsException.class) {
            return 1;
        }
        if (e.getClass() == IllegalArgumentException.class) {
            return 2;
        }
        return e.getClass() == IllegalStateException.class ? 4 : -1;
    }

    private static double call(SapperWar war, int which) {
        int x = near(12);
        int y = near(12);
        int team = near(8);
        switch (which) {
            case 0: return war.feed(0x33333333, 0x2e2e2e2e, 0x61333961, 0x0a333333, below(1 << 30));
            case 1: return war.trim(near(201));
            case 2:
                if (below(8) == 0) {
                    war.trim(0);
                    Check.tape(war, madeUpMap());
                }
                return war.map();
            case 3: return war.openAt(x, y);
            case 4: return war.cell(x, y, near(8));
            case 5: return war.come(near(2), x, y, 1 + near(9), 1 + near(5));
            case 6: return war.order(team, near(7), near(4), 1 + near(20));
            case 7: return war.clear(team);
            case 8: return war.team(team, near(10));
            case 9: return war.heard(team, near(3));
            case 10: return war.pass(below(4) == 0 ? near(201) : 1 + below(3));
            case 11: return war.count(near(12));
            case 12: return war.way(x, y, near(12), near(12));
            case 13: return war.reach(team, x, y);
            case 14: return war.target(team);
            case 15: return war.foresee(near(151), near(4));
            case 16: return war.falls(x, y);
            case 17: return war.lasts(team);
            case 18: return war.advise(team, near(61));
            case 19: return war.draw();
            case 20: return war.byteAt(near(156));
            case 21: return war.share();
            default: return war.digest();
        }
    }

    private static String madeUpMap() {
        StringBuilder map = new StringBuilder();
        String signs = "....33aabc123456789#";
        for (int y = 0; y < 12; y++) {
            for (int x = 0; x < 12; x++) {
                map.append(signs.charAt(below(signs.length())));
            }
            map.append('\n');
        }
        return map.toString();
    }

    private static SapperWar madeUpSiege() {
        SapperWar war = new SapperWar();
        Check.tape(war, madeUpMap());
        Check.due("a made-up map", war.map(), -1);
        for (int i = 0; i < 24 && war.count(1) < 8; i++) {
            int x = below(12);
            int y = below(12);
            if (war.cell(x, y, 2) == 1) {
                war.come(below(2), x, y, 1 + below(9), 1 + below(5));
            }
        }
        int teams = war.count(1);
        for (int i = 0; i < 7 * teams; i++) {
            if (war.team(i % teams, 5) < 12) {
                war.order(i % teams, below(7), below(4), 1 + below(6));
            }
        }
        return war;
    }

    /** What foresee, falls and lasts tell at first is what an hour after the other brings, each to a twin. */
    private static void foreseenRun(int run) {
        long itsSeed = seed;
        SapperWar war = madeUpSiege();
        int hours = 1 + below(60);
        int x = below(12);
        int y = below(12);
        int[] foreseen = new int[4];
        for (int what = 0; what < 4; what++) {
            foreseen[what] = war.foresee(hours, what);
        }
        int falls = war.falls(x, y);
        int[] lasts = new int[war.count(1)];
        for (int team = 0; team < lasts.length; team++) {
            lasts[team] = war.lasts(team);
        }
        String what = "foreseen run " + run;
        dueForeseen(what, war, hours, foreseen);
        dueFalls(what, twin(itsSeed), x, y, falls);
        for (int team = 0; team < lasts.length; team++) {
            dueLasts(what + ", team " + team, twin(itsSeed), team, lasts[team]);
        }
    }

    /** The same made-up siege once more; the numbers that come go on as if there were none. */
    private static SapperWar twin(long itsSeed) {
        long later = seed;
        seed = itsSeed;
        SapperWar war = madeUpSiege();
        seed = later;
        return war;
    }

    private static void dueForeseen(String what, SapperWar war, int hours, int[] foreseen) {
        int before = war.count(8);
        int wallsFallen = 0;
        for (int hour = 1; hour <= hours; hour++) {
            wallsFallen += war.pass(1);
        }
        Check.due(what + ", walls", wallsFallen, foreseen[0]);
        Check.due(what + ", side 0", war.count(2), foreseen[1]);
        Check.due(what + ", side 1", war.count(3), foreseen[2]);
        Check.due(what + ", fell in", war.count(8) - before, foreseen[3]);
    }

    private static void dueFalls(String what, SapperWar war, int x, int y, int falls) {
        int tunnel = war.cell(x, y, 2);
        for (int hour = 1; hour <= (falls < 0 ? 150 : falls); hour++) {
            war.pass(1);
            int now = war.cell(x, y, 2);
            if (hour == falls) {
                Check.due(what + ", no tunnel any more, hour " + hour, now, 0);
            } else if (tunnel == 1) {
                Check.due(what + ", still a tunnel, hour " + hour, now, 1);
            }
            tunnel = now;
        }
    }

    private static void dueLasts(String what, SapperWar war, int team, int lasts) {
        for (int hour = 1; hour <= (lasts < 0 ? 150 : lasts); hour++) {
            Check.due(what + " is left behind " + (hour - 1), war.team(team, 3) > 0 ? 1 : 0, 1);
            war.pass(1);
        }
        Check.due(what + " is left", war.team(team, 3) > 0 ? 1 : 0, lasts < 0 ? 1 : 0);
    }
}
