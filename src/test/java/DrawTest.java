/** Promises 21 to 24: draw, byteAt, share, digest. */
public final class DrawTest {
    private DrawTest() {
    }

    public static void main(String[] args) {
        drawing();
        drawingInOrder();
        bytes();
        sharing();
        digesting();
        Check.end();
    }

    private static final String PLAIN = "333333333333";

    private static void drawing() {
        Check.dueDrawing("a new siege", new SapperWar(), PLAIN, PLAIN, PLAIN, PLAIN, PLAIN, PLAIN, PLAIN, PLAIN, PLAIN,
                PLAIN, PLAIN, PLAIN);
        SapperWar war = Check.war("123456789#.3", "abcdefghi333");
        war.openAt(4, 1);
        Check.dueDrawing("all kinds", war, "123456789#.3", "WWWWwWWWW333", PLAIN, PLAIN, PLAIN, PLAIN, PLAIN, PLAIN,
                PLAIN, PLAIN, PLAIN, PLAIN);
        war.openAt(11, 11);
        war.come(1, 11, 11, 9, 1);
        Check.dueDrawing("in the place of what was there", war, "123456789#.3", "WWWWwWWWW333", PLAIN, PLAIN, PLAIN,
                PLAIN, PLAIN, PLAIN, PLAIN, PLAIN, PLAIN, "33333333333" + "1");
    }

    private static void drawingInOrder() {
        SapperWar war = Check.war("...i", "aa");
        war.come(1, 0, 0, 9, 1);
        war.come(1, 1, 0, 1, 1);
        war.come(0, 1, 0, 9, 1);
        war.openAt(3, 0);
        war.come(0, 3, 0, 9, 1);
        Check.dueDrawing("the smallest number, also over a wall", war, "11.033333333", "WW3333333333", PLAIN, PLAIN,
                PLAIN, PLAIN, PLAIN, PLAIN, PLAIN, PLAIN, PLAIN, PLAIN);
        war.pass(1);
        Check.dueDrawing("who is gone is not drawn", war, "10.033333333", "WW3333333333", PLAIN, PLAIN,
                PLAIN, PLAIN, PLAIN, PLAIN, PLAIN, PLAIN, PLAIN, PLAIN);

        SapperWar smoke = Check.war("..3a", "3.");
        smoke.openAt(3, 0);
        smoke.come(0, 0, 0, 9, 1);
        smoke.come(0, 3, 0, 9, 1);
        smoke.order(0, Check.SMOKE, 0, 1);
        smoke.order(1, Check.SMOKE, 0, 1);
        smoke.order(1, Check.DIG, Check.LEFT, 1);
        smoke.pass(1);
        Check.dueDrawing("smoke", smoke, "0*3033333333", "3.3333333333", PLAIN, PLAIN, PLAIN, PLAIN, PLAIN, PLAIN,
                PLAIN, PLAIN, PLAIN, PLAIN);
        Check.due("smoke under a wall", smoke.cell(3, 0, 5), 8);

        SapperWar little = Check.war("3..");
        little.come(0, 1, 0, 9, 1);
        little.order(0, Check.SMOKE, 0, 1);
        for (int left = 3; left >= 0; left--) {
            little.pass(1);
            little.draw();
            Check.due("what is left", little.cell(2, 0, 5), left);
            Check.due("a smoke of " + left, little.byteAt(2), left > 0 ? '*' : '.');
        }

        SapperWar wall = Check.war("a");
        wall.openAt(0, 0);
        wall.pass(5);
        wall.openAt(0, 0);
        wall.pass(9);
        wall.openAt(0, 0);
        wall.pass(9);
        wall.draw();
        Check.due("a fallen wall", wall.byteAt(0), 'X');
        wall.openAt(0, 0);
        wall.draw();
        Check.due("a fallen wall over a tunnel", wall.byteAt(0), 'X');
        wall.come(1, 0, 0, 9, 1);
        wall.draw();
        Check.due("a team under a fallen wall", wall.byteAt(0), '1');
    }

    private static void bytes() {
        SapperWar war = Check.war(".");
        Check.dueOutside("nothing is drawn yet", war, () -> war.byteAt(0));
        Check.due("draw", war.draw(), 156);
        Check.due("the first", war.byteAt(0), '.');
        Check.due("the first line end", war.byteAt(12), 10);
        Check.due("the last line end", war.byteAt(155), 10);
        Check.dueOutside("index -1", war, () -> war.byteAt(-1));
        Check.dueOutside("index 156", war, () -> war.byteAt(156));
        war.openAt(1, 0);
        Check.due("the paper stays", war.byteAt(1), '3');
        Check.due("draw", war.draw(), 156);
        Check.due("until it is drawn again", war.byteAt(1), '.');
        Check.due("bytes of the paper", war.count(11), 156);
    }

    private static void sharing() {
        SapperWar war = Check.war("a3b3c");
        Check.dueDouble("none of three", war.share(), 0.0);
        war.openAt(0, 0);
        war.pass(5);
        war.openAt(0, 0);
        war.pass(9);
        Check.dueDouble("none yet", war.share(), 0.0);
        war.openAt(0, 0);
        war.pass(9);
        Check.dueDouble("one of three", war.share(), 1.0 / 3.0);
        for (int i = 0; i < 3; i++) {
            war.openAt(2, 0);
            war.pass(9);
        }
        Check.dueDouble("two of three", war.share(), 2.0 / 3.0);
        for (int i = 0; i < 3; i++) {
            war.openAt(4, 0);
            war.pass(13);
        }
        Check.dueDouble("all", war.share(), 1.0);
    }

    private static SapperWar fought(int hours) {
        SapperWar war = Check.war("...a", "3#.9", "....");
        war.come(0, 0, 0, 9, 3);
        war.come(1, 2, 2, 8, 2);
        war.come(1, 0, 2, 2, 5);
        war.order(0, Check.LISTEN, 0, 4);
        war.order(1, Check.DIG, Check.DOWN, 3);
        war.order(2, Check.SMOKE, 0, 1);
        war.order(2, Check.GO, Check.LEFT, 1);
        war.feed(1, 2, 3, 4, 5);
        for (int hour = 0; hour < hours; hour++) {
            war.pass(1);
            if (hour % 3 == 2) {
                war.draw();
            }
        }
        return war;
    }

    private static void digesting() {
        Check.dueDigest("new", SapperWar::new);
        Check.dueDigest("a map", () -> Check.war("...a", "3#.9", "...."));
        for (int hours = 0; hours <= 20; hours++) {
            int passed = hours;
            Check.dueDigest("behind " + hours + " hours", () -> fought(passed));
        }
    }
}
