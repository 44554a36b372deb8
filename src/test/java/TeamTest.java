/** Promises 7 to 11: come, order, clear, team, heard. */
public final class TeamTest {
    private TeamTest() {
    }

    public static void main(String[] args) {
        coming();
        eightTeams();
        ordering();
        orderOfExceptions();
        clearing();
        telling();
        hearing();
        Check.end();
    }

    private static void dueTeam(String what, SapperWar war, int team, int... want) {
        for (int i = 0; i < want.length; i++) {
            Check.due(what + ", team(" + team + ", " + i + ")", war.team(team, i), want[i]);
        }
    }

    private static void coming() {
        SapperWar war = Check.war(".#");
        Check.dueOutside("x -1", war, () -> war.come(0, -1, 0, 1, 1));
        Check.dueOutside("x 12", war, () -> war.come(0, 12, 0, 1, 1));
        Check.dueOutside("y -1", war, () -> war.come(0, 0, -1, 1, 1));
        Check.dueOutside("y 12", war, () -> war.come(0, 0, 12, 1, 1));
        Check.dueBadArgument("side -1", war, () -> war.come(-1, 0, 0, 1, 1));
        Check.dueBadArgument("side 2", war, () -> war.come(2, 0, 0, 1, 1));
        Check.dueBadArgument("health 0", war, () -> war.come(0, 0, 0, 0, 1));
        Check.dueBadArgument("health 10", war, () -> war.come(0, 0, 0, 10, 1));
        Check.dueBadArgument("skill 0", war, () -> war.come(0, 0, 0, 1, 0));
        Check.dueBadArgument("skill 6", war, () -> war.come(0, 0, 0, 1, 6));
        Check.dueBadState("rock", war, () -> war.come(0, 1, 0, 1, 1));
        Check.dueBadState("earth", war, () -> war.come(0, 2, 0, 1, 1));
        Check.dueOutside("outside before a bad argument", war, () -> war.come(2, 12, 0, 0, 0));
        Check.dueBadArgument("a bad argument before a bad state", war, () -> war.come(0, 1, 0, 0, 1));
        Check.due("the first", war.come(0, 0, 0, 1, 5), 0);
        Check.due("the second, in the same cell", war.come(1, 0, 0, 9, 1), 1);
        dueTeam("the first", war, 0, 0, 0, 0, 1, 5, 0, 0, 0, -1, 0);
        dueTeam("the second", war, 1, 1, 0, 0, 9, 1, 0, 0, 0, -1, 0);
        Check.due("teams", war.count(1), 2);
    }

    private static void eightTeams() {
        SapperWar war = Check.war("...");
        for (int t = 0; t < 8; t++) {
            Check.due("team " + t, war.come(t == 7 ? 1 : 0, 0, 0, 1, 1), t);
        }
        Check.dueBadState("a ninth", war, () -> war.come(0, 0, 0, 1, 1));
        Check.dueBadArgument("a ninth with the side 2", war, () -> war.come(2, 0, 0, 1, 1));
        war.pass(1);
        Check.due("one is gone", war.count(3), 0);
        Check.due("and still a team", war.count(1), 8);
        Check.dueBadState("a gone team is one of the 8", war, () -> war.come(0, 0, 0, 1, 1));
        Check.dueOutside("team 8", war, () -> war.team(8, 0));
        Check.dueOutside("team -1", war, () -> war.team(-1, 0));
    }

    private static void ordering() {
        SapperWar war = Check.war(".");
        war.come(0, 0, 0, 9, 1);
        for (int i = 1; i <= 12; i++) {
            Check.due("order " + i, war.order(0, i % 7, i % 4, i), i);
        }
        Check.dueBadState("a 13th", war, () -> war.order(0, 0, 0, 1));
        Check.due("the first one's kind", war.team(0, 8), 1);
        Check.due("the first one's times", war.team(0, 9), 1);
        war.clear(0);
        Check.due("20 times", war.order(0, Check.WAIT, 3, 20), 1);
        Check.due("20 times are left", war.team(0, 9), 20);

        war.clear(0);
        int[] kinds = {Check.WAIT, Check.LISTEN, Check.PROP, Check.WAIT};
        int[] times = {2, 1, 2, 1};
        for (int i = 0; i < 4; i++) {
            war.order(0, kinds[i], 0, times[i]);
        }
        int[] kindsDue = {0, 4, 3, 3, 0, -1, -1};
        int[] timesDue = {1, 1, 2, 1, 1, 0, 0};
        int[] ordersDue = {4, 3, 2, 2, 1, 0, 0};
        for (int hour = 0; hour < 7; hour++) {
            war.pass(1);
            dueTeam("one behind the other, hour " + hour, war, 0, 0, 0, 0, 9, 1, ordersDue[hour], 0);
            Check.due("kind, hour " + hour, war.team(0, 8), kindsDue[hour]);
            Check.due("times, hour " + hour, war.team(0, 9), timesDue[hour]);
        }
    }

    private static void orderOfExceptions() {
        SapperWar war = Check.war(".");
        Check.dueOutside("no team yet", war, () -> war.order(0, 0, 0, 1));
        war.come(0, 0, 0, 1, 1);
        war.come(1, 0, 0, 9, 1);
        Check.dueOutside("team 2", war, () -> war.order(2, 0, 0, 1));
        Check.dueOutside("team -1", war, () -> war.order(-1, 0, 0, 1));
        Check.dueOutside("team 2 and a bad kind", war, () -> war.order(2, 7, 0, 1));
        Check.dueBadArgument("kind -1", war, () -> war.order(0, -1, 0, 1));
        Check.dueBadArgument("kind 7", war, () -> war.order(0, 7, 0, 1));
        Check.dueBadArgument("direction -1", war, () -> war.order(0, 0, -1, 1));
        Check.dueBadArgument("direction 4", war, () -> war.order(0, 0, 4, 1));
        Check.dueBadArgument("times 0", war, () -> war.order(0, 0, 0, 0));
        Check.dueBadArgument("times 21", war, () -> war.order(0, 0, 0, 21));
        war.pass(1);
        Check.due("team 0 is gone", war.team(0, 3), 0);
        Check.dueBadState("a gone team", war, () -> war.order(0, 0, 0, 1));
        Check.dueBadArgument("a gone team and times 0", war, () -> war.order(0, 0, 0, 0));
    }

    private static void clearing() {
        SapperWar war = Check.war(".");
        Check.dueOutside("no team yet", war, () -> war.clear(0));
        war.come(0, 0, 0, 1, 1);
        war.come(1, 0, 0, 9, 1);
        Check.dueOutside("team 2", war, () -> war.clear(2));
        Check.dueOutside("team -1", war, () -> war.clear(-1));
        Check.due("nothing to clear", war.clear(0), 0);
        for (int i = 0; i < 3; i++) {
            war.order(0, Check.PROP, 0, 5);
            war.order(1, Check.SMOKE, 0, 5);
        }
        Check.due("three", war.clear(1), 3);
        dueTeam("cleared", war, 1, 1, 0, 0, 9, 1, 0, 0, 0, -1, 0);
        Check.due("the other team's stay", war.team(0, 5), 3);
        war.pass(1);
        Check.due("a gone team keeps its orders", war.team(0, 5), 3);
        Check.due("which are taken back", war.clear(0), 3);
        Check.due("none left", war.team(0, 5), 0);
    }

    private static void telling() {
        SapperWar war = Check.war("333", "3..");
        Check.dueOutside("no team yet", war, () -> war.team(0, 0));
        war.come(1, 1, 1, 7, 2);
        Check.dueOutside("team 1", war, () -> war.team(1, 0));
        Check.dueOutside("what -1", war, () -> war.team(0, -1));
        Check.dueOutside("what 10", war, () -> war.team(0, 10));
        war.order(0, Check.GO, Check.LEFT, 3);
        war.order(0, Check.GO, Check.RIGHT, 1);
        war.order(0, Check.DIG, Check.DOWN, 4);
        dueTeam("before", war, 0, 1, 1, 1, 7, 2, 3, 0, 0, 2, 3);
        war.pass(1);
        dueTeam("a missed order is dropped with all its times", war, 0, 1, 1, 1, 7, 2, 2, 1, 1, 2, 1);
        war.pass(1);
        dueTeam("behind the go", war, 0, 1, 2, 1, 7, 2, 1, 1, 1, 1, 4);
        war.pass(1);
        dueTeam("digging, times stay", war, 0, 1, 2, 1, 7, 2, 1, 1, 3, 1, 4);
        war.pass(4);
        dueTeam("dug through, one time less", war, 0, 1, 2, 2, 7, 2, 1, 1, 3, 1, 3);
        war.clear(0);
        war.pass(1);
        dueTeam("without an order no noise", war, 0, 1, 2, 2, 7, 2, 0, 1, 0, -1, 0);
        war.pass(12);
        dueTeam("gone, where it was", war, 0, 1, 2, 2, 0, 2, 0, 1, 0, -1, 0);
        Check.due("missed by a gone team", war.count(9), 1);
    }

    private static void dueHeard(String what, SapperWar war, int team, int hour, int direction, int loudness) {
        Check.due(what + ", hour", war.heard(team, 0), hour);
        Check.due(what + ", direction", war.heard(team, 1), direction);
        Check.due(what + ", how loud", war.heard(team, 2), loudness);
    }

    private static void hearing() {
        SapperWar war = Check.war("....");
        Check.dueOutside("no team yet", war, () -> war.heard(0, 0));
        war.come(0, 0, 0, 9, 1);
        war.come(1, 3, 0, 9, 1);
        Check.dueOutside("team 2", war, () -> war.heard(2, 0));
        Check.dueOutside("team -1", war, () -> war.heard(-1, 0));
        Check.dueOutside("what -1", war, () -> war.heard(0, -1));
        Check.dueOutside("what 3", war, () -> war.heard(0, 3));
        dueHeard("never", war, 0, -1, -1, -1);
        war.order(0, Check.WAIT, 0, 3);
        war.order(0, Check.LISTEN, 0, 4);
        war.order(1, Check.WAIT, 0, 3);
        war.order(1, Check.PROP, 0, 1);
        war.pass(3);
        dueHeard("it did not listen", war, 0, -1, -1, -1);
        war.pass(1);
        dueHeard("2 * 2 and 3, less 3, in the hour 3", war, 0, 3, Check.RIGHT, 4);
        war.pass(3);
        dueHeard("silence does not change it", war, 0, 3, Check.RIGHT, 4);
        dueHeard("the one who did not listen", war, 1, -1, -1, -1);
    }
}
