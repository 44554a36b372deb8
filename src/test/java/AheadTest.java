/** Promises 17 to 20: foresee, falls, lasts, advise; none of them changes anything. */
public final class AheadTest {
    private AheadTest() {
    }

    public static void main(String[] args) {
        foreseeing();
        falling();
        fallingOfWhatIsDugLater();
        lasting();
        advising();
        advisingInsteadOfOrders();
        Check.end();
    }

    private static void foreseeing() {
        SapperWar war = Check.war("a..", "333");
        Check.dueBadArgument("0 hours", war, () -> war.foresee(0, 0));
        Check.dueBadArgument("151 hours", war, () -> war.foresee(151, 0));
        Check.dueBadArgument("0 hours before what 4", war, () -> war.foresee(0, 4));
        Check.dueOutside("what -1", war, () -> war.foresee(1, -1));
        Check.dueOutside("what 4", war, () -> war.foresee(150, 4));
        for (int i = 0; i < 2; i++) {
            war.openAt(0, 0);
            war.pass(10 - i);
        }
        Check.due("a wall of 4", war.cell(0, 0, 1), 4);
        war.openAt(0, 0);
        war.openAt(5, 5);
        war.come(0, 5, 5, 9, 1);
        war.come(1, 5, 5, 3, 1);
        war.come(1, 5, 5, 9, 1);
        war.order(1, Check.DIG, Check.UP, 4);
        war.draw();
        long before = war.digest();
        int[][] want = {{2, 0, 1, 2, 0}, {3, 0, 1, 1, 0}, {4, 0, 1, 1, 0}, {5, 0, 1, 1, 0}, {6, 0, 0, 1, 0}, {8, 0, 0, 1, 0},
                {9, 1, 0, 1, 1}, {12, 1, 0, 1, 1}, {13, 1, 0, 0, 2}, {150, 1, 0, 0, 2}};
        for (int[] row : want) {
            for (int what = 0; what < 4; what++) {
                Check.due("foresee(" + row[0] + ", " + what + ")", war.foresee(row[0], what), row[what + 1]);
            }
        }
        Check.due("nothing is changed", war.digest(), before);
        int fell = war.count(8);
        Check.due("and so it comes", war.pass(9), 1);
        Check.due("fell in", war.count(8) - fell, 1);
        Check.due("foreseen from here", war.foresee(4, 3), 1);
        Check.due("walls from here", war.foresee(150, 0), 0);
        Check.due("side 1 from here", war.foresee(4, 2), 0);
    }

    private static void falling() {
        SapperWar war = Check.war("1.9#3");
        Check.dueOutside("x -1", war, () -> war.falls(-1, 0));
        Check.dueOutside("x 12", war, () -> war.falls(12, 0));
        Check.dueOutside("y -1", war, () -> war.falls(0, -1));
        Check.dueOutside("y 12", war, () -> war.falls(0, 12));
        war.openAt(0, 0);
        war.openAt(2, 0);
        long before = war.digest();
        Check.due("hardness 1", war.falls(0, 0), 5);
        Check.due("hardness 3", war.falls(1, 0), 13);
        Check.due("hardness 9", war.falls(2, 0), -1);
        Check.due("rock", war.falls(3, 0), -1);
        Check.due("earth", war.falls(4, 0), -1);
        Check.due("nothing is changed", war.digest(), before);
        war.pass(4);
        Check.due("one hour left", war.falls(0, 0), 1);
        war.pass(1);
        Check.due("it fell in, and does not again", war.falls(0, 0), -1);
    }

    private static void fallingOfWhatIsDugLater() {
        SapperWar war = Check.war("..");
        war.come(0, 0, 0, 9, 3);
        war.order(0, Check.DIG, Check.DOWN, 1);
        war.order(0, Check.PROP, 0, 2);
        Check.due("propped when it is dug", war.falls(0, 1), -1);
        war.clear(0);
        war.order(0, Check.DIG, Check.DOWN, 1);
        Check.due("dug in 3 hours, aged in the third", war.falls(0, 1), 15);

        // A tunnel that is dug again and again falls in for the first time only once.
        SapperWar again = Check.war(".1");
        again.openAt(1, 0);
        again.come(0, 0, 0, 9, 5);
        again.order(0, Check.PROP, 0, 2);
        again.order(0, Check.WAIT, 0, 5);
        again.order(0, Check.DIG, Check.RIGHT, 1);
        Check.due("the first time", again.falls(1, 0), 5);

        // hours to wait: 7 * 20 = 140, then 3 to dig: behind 143 a tunnel of the age 1, of the hardness 2 from 151 on.
        SapperWar late = Check.war("9");
        late.openAt(0, 0);
        late.openAt(0, 1);
        late.pass(13);
        Check.due("hardness 2 now", late.cell(0, 1, 0), 2);
        late.come(0, 0, 0, 9, 2);
        for (int i = 0; i < 7; i++) {
            late.order(0, Check.WAIT, 0, i == 6 ? 19 : 20);
        }
        late.order(0, Check.DIG, Check.DOWN, 1);
        late.order(0, Check.GO, Check.UP, 1);
        Check.due("dug in the hour 142, behind 150", late.falls(0, 1), 150);
        late.clear(0);
        for (int i = 0; i < 7; i++) {
            late.order(0, Check.WAIT, 0, 20);
        }
        late.order(0, Check.DIG, Check.DOWN, 1);
        late.order(0, Check.GO, Check.UP, 1);
        Check.due("dug in the hour 143, behind 151", late.falls(0, 1), -1);
    }

    private static void lasting() {
        SapperWar war = Check.war(".", "", "9");
        Check.dueOutside("no team yet", war, () -> war.lasts(0));
        war.openAt(0, 2);
        war.come(0, 0, 0, 9, 1);
        war.come(1, 0, 2, 9, 1);
        war.come(1, 0, 2, 9, 1);
        Check.dueOutside("team 3", war, () -> war.lasts(3));
        Check.dueOutside("team -1", war, () -> war.lasts(-1));
        long before = war.digest();
        Check.due("until it falls in", war.lasts(0), 13);
        Check.due("for ever", war.lasts(1), -1);
        Check.due("nothing is changed", war.digest(), before);
        war.pass(12);
        Check.due("an hour", war.lasts(0), 1);
        war.pass(1);
        Check.due("gone", war.lasts(0), 0);

        SapperWar late = Check.war("9");
        late.openAt(0, 0);
        late.come(0, 0, 0, 9, 1);
        for (int i = 0; i < 8; i++) {
            late.order(0, Check.WAIT, 0, i == 7 ? 6 : 20);
        }
        late.order(0, Check.FIRE, 0, 1);
        Check.due("burnt in the hour 146, behind 150", late.lasts(0), 150);
        Check.due("and so its tunnel", late.falls(0, 0), 150);
        Check.due("foreseen for 150", late.foresee(150, 1), 0);
        late.clear(0);
        for (int i = 0; i < 8; i++) {
            late.order(0, Check.WAIT, 0, i == 7 ? 7 : 20);
        }
        late.order(0, Check.FIRE, 0, 1);
        Check.due("burnt in the hour 147, behind 151", late.lasts(0), -1);
        Check.due("foreseen for 150", late.foresee(150, 1), 1);

        SapperWar fight = Check.war("9");
        fight.openAt(0, 0);
        fight.come(0, 0, 0, 9, 1);
        fight.come(1, 0, 0, 7, 1);
        Check.due("the weaker", fight.lasts(1), 7);
        Check.due("the stronger", fight.lasts(0), -1);
    }

    private static void advising() {
        SapperWar war = Check.war("333", "#.3", "3#3");
        Check.dueOutside("no team yet", war, () -> war.advise(0, 1));
        war.come(0, 1, 1, 9, 5);
        Check.dueOutside("team 1", war, () -> war.advise(1, 1));
        Check.dueOutside("team -1", war, () -> war.advise(-1, 1));
        Check.dueOutside("team 1 before 0 hours", war, () -> war.advise(1, 0));
        Check.dueBadArgument("0 hours", war, () -> war.advise(0, 0));
        Check.dueBadArgument("61 hours", war, () -> war.advise(0, 61));
        long before = war.digest();
        Check.due("as many everywhere", war.advise(0, 1), 0);
        Check.due("up and right in two hours", war.advise(0, 2), 0);
        Check.due("right goes on", war.advise(0, 4), 1);
        Check.due("nothing is changed", war.digest(), before);
        Check.due("60 hours", war.advise(0, 60) >= 0 ? 1 : 0, 1);

        SapperWar soft = Check.war("333", "3.3", "313");
        soft.come(0, 1, 1, 9, 3);
        Check.due("the soft earth", soft.advise(0, 1), 2);
        Check.due("the first of several", soft.advise(0, 3), 0);
        SapperWar left = Check.war("#9#", "1.#", "#9#");
        left.come(1, 1, 1, 9, 3);
        Check.due("left", left.advise(0, 1), 3);

        SapperWar gone = Check.war(".");
        gone.come(0, 0, 0, 1, 1);
        gone.come(1, 0, 0, 9, 1);
        gone.pass(1);
        Check.due("gone", gone.advise(0, 5), -1);
        Check.dueBadArgument("gone, with 0 hours", gone, () -> gone.advise(0, 0));
        Check.dueBadArgument("gone, with 61 hours", gone, () -> gone.advise(0, 61));
    }

    private static void advisingInsteadOfOrders() {
        SapperWar war = Check.war("###", "1.1", "###");
        war.come(0, 1, 1, 9, 3);
        for (int i = 0; i < 12; i++) {
            war.order(0, Check.WAIT, 0, 20);
        }
        Check.due("with 12 orders", war.advise(0, 1), 1);
        Check.due("its orders stay", war.team(0, 5), 12);
        Check.due("and their times", war.team(0, 9), 20);

        SapperWar other = Check.war("####", "#.1.1", "####");
        other.come(0, 1, 1, 9, 3);
        other.come(0, 3, 1, 9, 3);
        other.order(1, Check.DIG, Check.RIGHT, 1);
        Check.due("the other teams go on", other.advise(0, 1), 1);
    }
}
