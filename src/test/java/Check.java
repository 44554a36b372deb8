/** What the tests share: answers that are due, exceptions that are due, and maps on the tape. */
final class Check {
    private static int wrong = 0;

    private Check() {
    }

    interface Call {
        void make();
    }

    static void due(String what, long got, long want) {
        if (got != want) {
            wrong(what + " answered " + got + ", due is " + want);
        }
    }

    static void dueDouble(String what, double got, double want) {
        if (got != want) {
            wrong(what + " answered " + got + ", due is " + want);
        }
    }

    /** The call is to throw an exception of exactly this class, and to change nothing. */
    static void dueThrown(String what, SapperWar war, Class<?> want, Call call) {
        long before = war.digest();
        Class<?> got = null;
        try {
            call.make();
        } catch (RuntimeException e) {
            got = e.getClass();
        }
        if (got != want) {
            wrong(what + " threw " + got + ", due is " + want);
        }
        due(what + ", the digest behind it", war.digest(), before);
    }

    static void dueOutside(String what, SapperWar war, Call call) {
        dueThrown(what, war, IndexOutOfBoundsException.class, call);
    }

    static void dueBadArgument(String what, SapperWar war, Call call) {
        dueThrown(what, war, IllegalArgumentException.class, call);
    }

    static void dueBadState(String what, SapperWar war, Call call) {
        dueThrown(what, war, IllegalStateException.class, call);
    }

    /** The health of the teams from 0 on. */
    static void dueHealth(String what, SapperWar war, int... want) {
        for (int t = 0; t < want.length; t++) {
            due(what + ", health of team " + t, war.team(t, 3), want[t]);
        }
    }

    static void duePlace(String what, SapperWar war, int team, int x, int y) {
        due(what + ", x of team " + team, war.team(team, 1), x);
        due(what + ", y of team " + team, war.team(team, 2), y);
    }

    /** All that cell tells of a cell: hardness, wall, tunnel, props, age, smoke, work, hours to burn. */
    static void dueCell(String what, SapperWar war, int x, int y, int... want) {
        for (int i = 0; i < want.length; i++) {
            due(what + ", cell(" + x + ", " + y + ", " + i + ")", war.cell(x, y, i), want[i]);
        }
    }

    static void dueDrawing(String what, SapperWar war, String... lines) {
        due(what + ", draw", war.draw(), 156);
        StringBuilder got = new StringBuilder();
        for (int i = 0; i < 156; i++) {
            got.append((char) war.byteAt(i));
        }
        if (!got.toString().equals(text(lines))) {
            wrong(what + " drew\n" + got + "due is\n" + text(lines));
        }
    }

    static void wrong(String text) {
        wrong++;
        System.out.println(text);
    }

    static void end() {
        if (wrong != 0) {
            System.out.println(wrong + " answers are not as due");
            System.exit(1);
        }
    }

    static String text(String... lines) {
        StringBuilder text = new StringBuilder();
        for (String line : lines) {
            text.append(line).append('\n');
        }
        return text.toString();
    }

    /** Feeds a text to the tape and trims what the last call of feed appended too much. */
    static void tape(SapperWar war, String text) {
        for (int i = 0; i < text.length(); i += 20) {
            war.feed(word(text, i), word(text, i + 4), word(text, i + 8), word(text, i + 12), word(text, i + 16));
        }
        war.trim(text.length());
    }

    private static int word(String text, int from) {
        int word = 0;
        for (int i = from; i < from + 4; i++) {
            word = word << 8 | (i < text.length() ? text.charAt(i) : 0);
        }
        return word;
    }

    /** A siege on a map; lines that are not given, and what a line is too short, is earth of the hardness 3. */
    static SapperWar war(String... lines) {
        SapperWar war = new SapperWar();
        StringBuilder text = new StringBuilder();
        for (int y = 0; y < 12; y++) {
            StringBuilder line = new StringBuilder(y < lines.length ? lines[y] : "");
            while (line.length() < 12) {
                line.append('3');
            }
            text.append(line).append('\n');
        }
        tape(war, text.toString());
        due("map", war.map(), -1);
        return war;
    }

    static final int WAIT = 0;
    static final int DIG = 1;
    static final int GO = 2;
    static final int PROP = 3;
    static final int LISTEN = 4;
    static final int SMOKE = 5;
    static final int FIRE = 6;
    static final int UP = 0;
    static final int RIGHT = 1;
    static final int DOWN = 2;
    static final int LEFT = 3;
}
