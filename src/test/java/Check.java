import java.math.BigInteger;

/** What the tests share: answers that are due, exceptions that are due, and maps on the tape. */
final class Check {
    private static int wrong = 0;

    private Check() {
    }

    interface Call {
        void make();
    }

    /** Makes the same siege each time it is asked. */
    interface Maker {
        SapperWar make();
    }

    interface CallOn {
        void make(SapperWar war);
    }

    static void due(String what, long got, long want) {
        if (got != want) {
            wrong(what + " answered " + got + ", due is " + want);
        }
    }

    static void dueDouble(String what, double got, double want) {
        if (got != want) {
            wrong(what + " answered " + got + ", due is " + want);
        }
    }

    /** The call is to throw an exception of exactly this class, and to change nothing. */
    static void dueThrown(String what, SapperWar war, Class<?> want, Call call) {
        long before = war.digest();
        Class<?> got = null;
        try {
            call.make();
        } catch (RuntimeException e) {
            got = e.getClass();
        }
        if (got != want) {
            wrong(what + " threw " + got + ", due is " + want);
        }
        due(what + ", the digest behind it", war.digest(), before);
    }

    static void dueOutside(String what, SapperWar war, Call call) {
        dueThrown(what, war, IndexOutOfBoundsException.class, call);
    }

    static void dueBadArgument(String what, SapperWar war, Call call) {
        dueThrown(what, war, IllegalArgumentException.class, call);
    }

    static void dueBadState(String what, SapperWar war, Call call) {
        dueThrown(what, war, IllegalStateException.class, call);
    }

    /**
     * The call is to throw an exception of exactly this class, and the siege is to go on in all as one made
     * the same way that never had that call: also in what no call tells at once.
     */
    static void dueRefused(String what, Maker maker, Class<?> want, CallOn call) {
        SapperWar war = maker.make();
        dueThrown(what, war, want, () -> call.make(war));
        dueSame(what, war, maker.make());
    }

    static void dueOutside(String what, Maker maker, CallOn call) {
        dueRefused(what, maker, IndexOutOfBoundsException.class, call);
    }

    static void dueBadArgument(String what, Maker maker, CallOn call) {
        dueRefused(what, maker, IllegalArgumentException.class, call);
    }

    static void dueBadState(String what, Maker maker, CallOn call) {
        dueRefused(what, maker, IllegalStateException.class, call);
    }

    private static final int HOURS_COMPARED = 30;

    /** Two sieges are alike now, in the hours to come (the orders that wait), and in the bytes of the tape. */
    static void dueSame(String what, SapperWar war, SapperWar twin) {
        due(what + ", the digest of its twin", war.digest(), twin.digest());
        for (int hour = 1; hour <= HOURS_COMPARED; hour++) {
            due(what + ", walls in the hour " + hour + " behind it", war.pass(1), twin.pass(1));
            due(what + ", the digest " + hour + " hours behind it", war.digest(), twin.digest());
        }
        fillTape(war);
        fillTape(twin);
        due(what + ", its tape as a map", war.map(), twin.map());
        due(what + ", the digest behind that map", war.digest(), twin.digest());
    }

    /** Makes what is on the tape as long as a map. */
    private static void fillTape(SapperWar war) {
        String plain = (PLAIN + "\n").repeat(12);
        for (int from = war.count(10); from < 156; from += 20) {
            war.feed(word(plain, from), word(plain, from + 4), word(plain, from + 8), word(plain, from + 12),
                    word(plain, from + 16));
        }
        war.trim(156);
    }

    private static final BigInteger WHOLE = BigInteger.ONE.shiftLeft(64);

    private static BigInteger next(BigInteger d, int x) {
        return d.multiply(BigInteger.valueOf(31)).add(BigInteger.valueOf(x)).mod(WHOLE);
    }

    /** The checksum is what the document's words make of the answers of the other calls. */
    static void dueDigest(String what, Maker maker) {
        BigInteger d = BigInteger.valueOf(709);
        SapperWar war = maker.make();
        for (int i = 0; i < 12; i++) {
            d = next(d, war.count(i));
        }
        for (int cell = 0; cell < 144; cell++) {
            // A new twin for each 24 cells, as an object is good for 512 calls.
            war = cell % 24 == 0 ? maker.make() : war;
            for (int i = 0; i < 8; i++) {
                d = next(d, war.cell(cell % 12, cell / 12, i));
            }
        }
        war = maker.make();
        int teams = war.count(1);
        for (int t = 0; t < teams; t++) {
            for (int i = 0; i < 10; i++) {
                d = next(d, war.team(t, i));
            }
            for (int i = 0; i < 3; i++) {
                d = next(d, war.heard(t, i));
            }
        }
        war = maker.make();
        int bytes = war.count(11);
        for (int i = 0; i < bytes; i++) {
            d = next(d, war.byteAt(i));
        }
        due(what + ", digest", war.digest(), d.longValue());
        due(what + ", digest once more", war.digest(), d.longValue());
    }

    static final String PLAIN = "333333333333";

    /** The health of the teams from 0 on. */
    static void dueHealth(String what, SapperWar war, int... want) {
        for (int t = 0; t < want.length; t++) {
            due(what + ", health of team " + t, war.team(t, 3), want[t]);
        }
    }

    static void duePlace(String what, SapperWar war, int team, int x, int y) {
        due(what + ", x of team " + team, war.team(team, 1), x);
        due(what + ", y of team " + team, war.team(team, 2), y);
    }

    /** All that cell tells of a cell: hardness, wall, tunnel, props, age, smoke, work, hours to burn. */
    static void dueCell(String what, SapperWar war, int x, int y, int... want) {
        for (int i = 0; i < want.length; i++) {
            due(what + ", cell(" + x + ", " + y + ", " + i + ")", war.cell(x, y, i), want[i]);
        }
    }

    static void dueDrawing(String what, SapperWar war, String... lines) {
        due(what + ", draw", war.draw(), 156);
        StringBuilder got = new StringBuilder();
        for (int i = 0; i < 156; i++) {
            got.append((char) war.byteAt(i));
        }
        if (!got.toString().equals(text(lines))) {
            wrong(what + " drew\n" + got + "due is\n" + text(lines));
        }
    }

    static void wrong(String text) {
        wrong++;
        System.out.println(text);
    }

    static void end() {
        if (wrong != 0) {
            System.out.println(wrong + " answers are not as due");
            System.exit(1);
        }
    }

    static String text(String... lines) {
        StringBuilder text = new StringBuilder();
        for (String line : lines) {
            text.append(line).append('\n');
        }
        return text.toString();
    }

    /** Feeds a text to the tape and trims what the last call of feed appended too much. */
    static void tape(SapperWar war, String text) {
        for (int i = 0; i < text.length(); i += 20) {
            war.feed(word(text, i), word(text, i + 4), word(text, i + 8), word(text, i + 12), word(text, i + 16));
        }
        war.trim(text.length());
    }

    private static int word(String text, int from) {
        int word = 0;
        for (int i = from; i < from + 4; i++) {
            word = word << 8 | (i < text.length() ? text.charAt(i) : 0);
        }
        return word;
    }

    /** A siege on a map; lines that are not given, and what a line is too short, is earth of the hardness 3. */
    static SapperWar war(String... lines) {
        SapperWar war = new SapperWar();
        StringBuilder text = new StringBuilder();
        for (int y = 0; y < 12; y++) {
            StringBuilder line = new StringBuilder(y < lines.length ? lines[y] : "");
            while (line.length() < 12) {
                line.append('3');
            }
            text.append(line).append('\n');
        }
        tape(war, text.toString());
        due("map", war.map(), -1);
        return war;
    }

    /**
     * A siege in which much goes on: five teams, the team 2 gone and the team 4 with 12 orders, work, props, smoke,
     * fire and a wall with less strength, 156 bytes on the paper, and a tape that is a map.
     */
    static SapperWar busy() {
        SapperWar war = war("...3a..b#...", ".#.c3.3339.3", "....5..i....", "9");
        war.openAt(4, 0);
        war.openAt(7, 2);
        war.openAt(3, 1);
        war.pass(5);
        war.come(0, 0, 0, 9, 5);
        war.come(1, 11, 0, 8, 4);
        war.come(0, 5, 0, 1, 1);
        war.come(1, 6, 0, 2, 2);
        int[][] orders = {{0, PROP, 0, 1}, {0, SMOKE, 0, 1}, {0, FIRE, 0, 1}, {0, DIG, DOWN, 4}, {0, GO, LEFT, 1},
            {1, LISTEN, 0, 1}, {1, PROP, 0, 1}, {1, DIG, DOWN, 2}, {1, PROP, 0, 4}, {2, WAIT, 0, 1}, {3, DIG, DOWN, 1},
            {3, FIRE, 0, 1}, {3, LISTEN, 0, 3}};
        for (int[] order : orders) {
            war.order(order[0], order[1], order[2], order[3]);
        }
        war.pass(3);
        war.openAt(11, 11);
        war.come(1, 11, 11, 7, 3);
        for (int i = 0; i < 12; i++) {
            war.order(4, i % 2 == 0 ? DIG : PROP, i % 4, 1 + i % 3);
        }
        war.draw();
        tape(war, ("123456789#.a\n" + ".#3b9i1.33.3\n").repeat(6));
        return war;
    }

    static final int WAIT = 0;
    static final int DIG = 1;
    static final int GO = 2;
    static final int PROP = 3;
    static final int LISTEN = 4;
    static final int SMOKE = 5;
    static final int FIRE = 6;
    static final int UP = 0;
    static final int RIGHT = 1;
    static final int DOWN = 2;
    static final int LEFT = 3;
}
