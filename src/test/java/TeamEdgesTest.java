/**
 * The sentences of the term "Teams" and of the promises 7 to 11 that name a boundary; each is quoted over its test.
 */
public final class TeamEdgesTest {
    private TeamEdgesTest() {
    }

    public static void main(String[] args) {
        atMostEight();
        goneTeamsAreAmongTheEight();
        inATunnel();
        theLeastAndTheMostOfATeam();
        beyondTheLeastAndTheMost();
        whichExceptionComesFirst();
        atMostTwelveOrders();
        roomAgain();
        oneToTwentyTimes();
        eachKindAndDirection();
        ordersOfGoneTeams();
        noSuchTeam();
        clearing();
        whatATeamTells();
        noiseBefore();
        whereItWas();
        neverHeard();
        theLatestTime();
        Check.end();
    }

    private static SapperWar teams(int count) {
        SapperWar war = Check.war(".#");
        for (int t = 0; t < count; t++) {
            war.come(t % 2, 0, 0, 9, 3);
        }
        return war;
    }

    // "There are at most 8, numbered from 0 in the order of their coming" "Returns its number."
    private static void atMostEight() {
        SapperWar war = Check.war(".#");
        Check.due("teams at first", war.count(1), 0);
        for (int t = 0; t < 8; t++) {
            Check.due("the number", war.come(t / 4, 0, 0, t + 1, t % 5 + 1), t);
            Check.due("teams", war.count(1), t + 1);
        }
        for (int t = 0; t < 8; t++) {
            Check.due("the side of " + t, war.team(t, 0), t / 4);
            Check.due("the health of " + t, war.team(t, 3), t + 1);
            Check.due("the skill of " + t, war.team(t, 4), t % 5 + 1);
        }
        Check.dueBadState("a ninth", () -> teams(8), w -> w.come(0, 0, 0, 9, 3));
        Check.dueBadState("a ninth, on no tunnel", () -> teams(8), w -> w.come(0, 2, 0, 9, 3));
        Check.due("an eighth", teams(7).come(1, 0, 0, 1, 1), 7);
        Check.due("sides", war.count(2) * 10 + war.count(3), 44);
    }

    private static SapperWar allGone() {
        SapperWar war = Check.war("1.");
        war.openAt(0, 0);
        for (int t = 0; t < 8; t++) {
            war.come(0, 0, 0, 9, 1);
        }
        war.pass(5);
        return war;
    }

    // "without health it is gone"
    private static void goneTeamsAreAmongTheEight() {
        Check.due("teams", allGone().count(1), 8);
        Check.due("that are not gone", allGone().count(2), 0);
        Check.dueBadState("a ninth, with 8 that are gone", TeamEdgesTest::allGone, w -> w.come(0, 1, 0, 9, 3));
    }

    // "if there are 8, or this is no tunnel"
    private static void inATunnel() {
        Check.dueBadState("rock", () -> teams(2), w -> w.come(0, 1, 0, 9, 3));
        Check.dueBadState("earth", () -> teams(2), w -> w.come(0, 2, 0, 9, 3));
        Check.dueBadState("earth under a wall", () -> Check.war("a"), w -> w.come(0, 0, 0, 9, 3));
        Check.dueBadState("a tunnel that fell in", TeamEdgesTest::fallenIn, w -> w.come(0, 0, 0, 9, 3));
        SapperWar war = fallenIn();
        war.openAt(0, 0);
        Check.due("opened again", war.come(1, 0, 0, 9, 3), 0);
        SapperWar corners = Check.war("..........3.", "3", "3", "3", "3", "3", "3", "3", "3", "3", "3", "...........3");
        corners.openAt(11, 11);
        Check.due("a corner", corners.come(0, 0, 0, 1, 1), 0);
        Check.due("a corner", corners.come(0, 11, 0, 1, 1), 1);
        Check.due("a corner", corners.come(0, 0, 11, 1, 1), 2);
        Check.due("a corner", corners.come(0, 11, 11, 1, 1), 3);
        Check.duePlace("a corner", corners, 3, 11, 11);
    }

    private static SapperWar fallenIn() {
        SapperWar war = Check.war("1");
        war.openAt(0, 0);
        war.pass(5);
        return war;
    }

    // "each is of a side, 0 or 1, .. with health, 1 to 9, and skill, 1 to 5"
    private static void theLeastAndTheMostOfATeam() {
        for (int side = 0; side <= 1; side++) {
            for (int health = 1; health <= 9; health++) {
                for (int skill = 1; skill <= 5; skill++) {
                    SapperWar war = teams(0);
                    Check.due("come", war.come(side, 0, 0, health, skill), 0);
                    int[] want = {side, 0, 0, health, skill, 0, 0, 0, -1, 0};
                    for (int what = 0; what < 10; what++) {
                        Check.due("new, team(0, " + what + ")", war.team(0, what), want[what]);
                    }
                }
            }
        }
    }

    private static void beyondTheLeastAndTheMost() {
        int[][] wrong = {{-1, 1, 1}, {2, 1, 1}, {0, 0, 1}, {0, 10, 1}, {0, -1, 1}, {1, 1, 0}, {1, 1, 6}, {1, 1, -1}};
        for (int[] team : wrong) {
            Check.dueBadArgument("side " + team[0] + ", health " + team[1] + ", skill " + team[2], () -> teams(2),
                    w -> w.come(team[0], 0, 0, team[1], team[2]));
        }
    }

    // "If several exceptions apply, the one that is named first is thrown."
    private static void whichExceptionComesFirst() {
        Check.dueOutside("outside, before all others", () -> teams(8), w -> w.come(2, 12, 0, 0, 6));
        Check.dueOutside("outside, before all others", () -> teams(8), w -> w.come(2, 0, -1, 10, 0));
        Check.dueBadArgument("an argument, before 8", () -> teams(8), w -> w.come(0, 0, 0, 10, 1));
        Check.dueBadArgument("an argument, before no tunnel", () -> teams(1), w -> w.come(0, 1, 0, 1, 6));
        Check.dueOutside("no such team, before an argument", () -> teams(1), w -> w.order(1, 7, 4, 0));
        Check.dueBadArgument("an argument, before gone", TeamEdgesTest::allGone, w -> w.order(0, 0, 0, 21));
        Check.dueBadArgument("an argument, before 12", () -> orders(12), w -> w.order(0, 7, 0, 1));
        Check.dueBadArgument("an argument, before 12", () -> orders(12), w -> w.order(0, 0, 4, 1));
        Check.dueBadArgument("an argument, before 12", () -> orders(12), w -> w.order(0, 0, 0, 0));
    }

    /** Two teams of one side in a tunnel that stands; the first has so many orders. */
    private static SapperWar orders(int count) {
        SapperWar war = Check.war("9");
        war.openAt(0, 0);
        war.come(0, 0, 0, 9, 3);
        war.come(0, 0, 0, 9, 3);
        for (int i = 0; i < count; i++) {
            war.order(0, i % 4 == 0 ? Check.PROP : Check.WAIT, 0, 2);
        }
        return war;
    }

    // "It has orders, at most 12, one behind the other" "Returns how many orders it has then."
    private static void atMostTwelveOrders() {
        SapperWar war = Check.war("9");
        war.openAt(0, 0);
        war.come(0, 0, 0, 9, 1);
        for (int i = 1; i <= 12; i++) {
            Check.due("order", war.order(0, i % 2 == 0 ? Check.WAIT : Check.LISTEN, 0, i), i);
            Check.due("orders", war.team(0, 5), i);
            Check.due("the first one's kind", war.team(0, 8), Check.LISTEN);
            Check.due("the first one's times", war.team(0, 9), 1);
        }
        Check.dueBadState("a thirteenth", war, () -> war.order(0, 0, 0, 1));
        Check.dueBadState("a thirteenth", () -> orders(12), w -> w.order(0, Check.FIRE, 0, 1));
        Check.due("a twelfth", orders(11).order(0, Check.FIRE, 0, 1), 12);
        for (int i = 1; i <= 12; i++) {
            Check.due("orders", war.team(0, 5), 13 - i);
            Check.due("kind", war.team(0, 8), i % 2 == 0 ? Check.WAIT : Check.LISTEN);
            Check.due("times", war.team(0, 9), i);
            war.pass(i);
        }
        Check.due("no order is left", war.team(0, 5), 0);
        Check.due("kind without any", war.team(0, 8), -1);
        Check.due("times without any", war.team(0, 9), 0);
    }

    // An order that is done, dropped or taken back makes room for another one.
    private static void roomAgain() {
        SapperWar war = Check.war("9");
        war.openAt(0, 0);
        war.come(0, 0, 0, 9, 1);
        war.order(0, Check.WAIT, 0, 2);
        war.order(0, Check.GO, 0, 9);
        for (int i = 0; i < 10; i++) {
            war.order(0, Check.WAIT, 0, 1);
        }
        Check.dueBadState("12", war, () -> war.order(0, 0, 0, 1));
        war.pass(1);
        Check.dueBadState("a time less, but still 12", war, () -> war.order(0, 0, 0, 1));
        war.pass(1);
        Check.due("one is done", war.order(0, Check.PROP, 0, 20), 12);
        Check.dueBadState("12 again", war, () -> war.order(0, 0, 0, 1));
        war.pass(1);
        Check.due("one is missed", war.team(0, 6), 1);
        Check.due("and dropped", war.order(0, Check.LISTEN, 0, 20), 12);
        Check.due("12 are taken back", war.clear(0), 12);
        Check.due("and there is room", war.order(0, Check.LISTEN, 0, 20), 1);
    }

    // "Throws IllegalArgumentException if .. times is not 1 to 20"
    private static void oneToTwentyTimes() {
        for (int times = 1; times <= 20; times++) {
            SapperWar war = Check.war("9");
            war.openAt(0, 0);
            war.come(0, 0, 0, 9, 1);
            Check.due("order", war.order(0, Check.WAIT, 0, times), 1);
            Check.due("times", war.team(0, 9), times);
            for (int left = times - 1; left >= 0; left--) {
                war.pass(1);
                Check.due("times left of " + times, war.team(0, 9), left);
                Check.due("orders", war.team(0, 5), left == 0 ? 0 : 1);
            }
        }
        for (int times : new int[] {0, -1, 21, Integer.MIN_VALUE, Integer.MAX_VALUE}) {
            Check.dueBadArgument("times " + times, () -> orders(3), w -> w.order(0, 0, 0, times));
        }
    }

    // "the kind, 0 to 6" "direction is not 0 to 3": also of a kind that needs no direction.
    private static void eachKindAndDirection() {
        for (int kind = 0; kind <= 6; kind++) {
            int given = kind;
            for (int direction = 0; direction <= 3; direction++) {
                SapperWar war = teams(1);
                Check.due("order", war.order(0, kind, direction, 1), 1);
                Check.due("kind", war.team(0, 8), kind);
            }
            Check.dueBadArgument("direction -1", () -> orders(1), w -> w.order(0, given, -1, 1));
            Check.dueBadArgument("direction 4", () -> orders(1), w -> w.order(0, given, 4, 1));
        }
        Check.dueBadArgument("kind -1", () -> orders(1), w -> w.order(0, -1, 0, 1));
        Check.dueBadArgument("kind 7", () -> orders(1), w -> w.order(0, 7, 0, 1));
    }

    private static SapperWar gone(int orders) {
        SapperWar war = Check.war("..");
        war.come(0, 0, 0, 1, 1);
        war.come(1, 1, 0, 9, 1);
        for (int i = 0; i < orders; i++) {
            war.order(0, Check.SMOKE, 0, 2);
        }
        war.pass(1);
        return war;
    }

    // "Throws IllegalStateException if it is gone, or has 12"
    private static void ordersOfGoneTeams() {
        Check.dueBadState("gone", () -> gone(0), w -> w.order(0, 0, 0, 1));
        Check.dueBadState("gone, with 12", () -> gone(12), w -> w.order(0, 0, 0, 1));
        Check.due("the other one is not", gone(0).order(1, 0, 0, 1), 1);
        SapperWar war = gone(12);
        Check.due("its orders are taken back", war.clear(0), 12);
        Check.dueBadState("and it is still gone", war, () -> war.order(0, 0, 0, 1));
    }

    // "Throws IndexOutOfBoundsException if there is no such team"
    private static void noSuchTeam() {
        for (int count = 0; count <= 8; count++) {
            int teams = count;
            for (int number : new int[] {-1, count, 8, Integer.MIN_VALUE, Integer.MAX_VALUE}) {
                SapperWar war = teams(teams);
                Check.dueOutside("order", war, () -> war.order(number, 0, 0, 1));
                Check.dueOutside("clear", war, () -> war.clear(number));
                Check.dueOutside("team", war, () -> war.team(number, 0));
                Check.dueOutside("heard", war, () -> war.heard(number, 0));
                Check.dueOutside("reach", war, () -> war.reach(number, 0, 0));
                Check.dueOutside("target", war, () -> war.target(number));
                Check.dueOutside("lasts", war, () -> war.lasts(number));
                Check.dueOutside("advise", war, () -> war.advise(number, 1));
            }
            if (count > 0) {
                Check.due("the last team", teams(count).team(count - 1, 3), 9);
                Check.due("the last team", teams(count).clear(count - 1), 0);
                Check.due("the last team", teams(count).order(count - 1, 0, 0, 1), 1);
                Check.due("the last team", teams(count).heard(count - 1, 0), -1);
            }
        }
    }

    // "Takes all orders of a team back." "Returns how many it had."
    private static void clearing() {
        for (int had = 0; had <= 12; had++) {
            SapperWar war = orders(had);
            war.order(1, Check.WAIT, 0, 5);
            Check.due("clear", war.clear(0), had);
            Check.due("orders", war.team(0, 5), 0);
            Check.due("kind", war.team(0, 8), -1);
            Check.due("times", war.team(0, 9), 0);
            Check.due("once more", war.clear(0), 0);
            Check.due("another team's stay", war.team(1, 5), 1);
            war.pass(1);
            Check.due("none of them is carried out", war.cell(0, 0, 3), 0);
        }
        Check.due("of a gone team", gone(3).clear(0), 3);
        Check.due("of a gone team without any", gone(0).clear(0), 0);
    }

    // "8 the kind of its first order, -1 without any, 9 the times that this one has left, 0 without any"
    private static void whatATeamTells() {
        SapperWar war = Check.war("9.");
        war.come(1, 1, 0, 8, 2);
        int[] without = {1, 1, 0, 8, 2, 0, 0, 0, -1, 0};
        for (int what = 0; what < 10; what++) {
            Check.due("without an order, " + what, war.team(0, what), without[what]);
        }
        war.order(0, Check.WAIT, 0, 20);
        int[] with = {1, 1, 0, 8, 2, 1, 0, 0, Check.WAIT, 20};
        for (int what = 0; what < 10; what++) {
            Check.due("with one, " + what, war.team(0, what), with[what]);
        }
        Check.dueOutside("what -1", () -> teams(1), w -> w.team(0, -1));
        Check.dueOutside("what 10", () -> teams(1), w -> w.team(0, 10));
        Check.dueOutside("what -1", () -> teams(1), w -> w.heard(0, -1));
        Check.dueOutside("what 3", () -> teams(1), w -> w.heard(0, 3));
    }

    // "7 its noise in the latest hour, 0 before"
    private static void noiseBefore() {
        SapperWar war = Check.war("...........", "9");
        war.come(0, 0, 0, 9, 1);
        war.order(0, Check.FIRE, 0, 1);
        Check.due("before the first hour", war.team(0, 7), 0);
        war.pass(1);
        Check.due("in the latest hour", war.team(0, 7), 4);
        Check.due("who comes later", war.come(0, 10, 0, 9, 1), 1);
        Check.due("made none before", war.team(1, 7), 0);
        war.pass(1);
        Check.due("the latest hour alone", war.team(0, 7), 0);
        war.pass(2);
        Check.dueHealth("fallen in", war, 0, 9);
        Check.due("a gone team", war.team(0, 7), 0);

        SapperWar fight = gone(0);
        Check.due("in the hour in which it was gone", fight.team(0, 7), 6);
        fight.pass(1);
        Check.due("in the hour behind it", fight.team(0, 7), 0);
        Check.due("nor has the other one whom to fight", fight.team(1, 7), 0);
    }

    // "(1 and 2: where it is, or was as it was gone)"
    private static void whereItWas() {
        SapperWar war = Check.war("9....", "9");
        war.come(0, 2, 0, 2, 1);
        war.order(0, Check.GO, Check.RIGHT, 2);
        war.order(0, Check.FIRE, 0, 1);
        war.order(0, Check.GO, Check.LEFT, 1);
        war.pass(6);
        Check.dueHealth("fallen in", war, 0);
        Check.duePlace("where it was", war, 0, 3, 0);
        war.openAt(3, 0);
        war.pass(3);
        Check.duePlace("where it was", war, 0, 3, 0);
        Check.due("it keeps no health", war.team(0, 3), 0);
        Check.due("nor carries out orders", war.team(0, 7), 0);
    }

    // "Returns this; -1 if it never heard anything."
    private static void neverHeard() {
        SapperWar war = Check.war("......");
        war.come(0, 0, 0, 9, 1);
        war.come(1, 5, 0, 9, 1);
        war.order(0, Check.LISTEN, 0, 1);
        war.order(1, Check.LISTEN, 0, 1);
        war.pass(1);
        for (int what = 0; what < 3; what++) {
            Check.due("never, " + what, war.heard(0, what), -1);
            Check.due("never, " + what, war.heard(1, what), -1);
        }
    }

    // "0 the hour in which it heard something the latest time"
    private static void theLatestTime() {
        SapperWar war = Check.war("......");
        war.come(0, 0, 0, 9, 1);
        war.come(1, 5, 0, 9, 1);
        war.order(0, Check.LISTEN, 0, 4);
        war.order(1, Check.PROP, 0, 1);
        war.order(1, Check.WAIT, 0, 1);
        war.order(1, Check.DIG, Check.UP, 1);
        war.order(1, Check.PROP, 0, 1);
        int[][] heard = {{0, 1, 2}, {0, 1, 2}, {2, 1, 4}, {3, 1, 2}};
        for (int hour = 0; hour < 4; hour++) {
            war.pass(1);
            for (int what = 0; what < 3; what++) {
                Check.due("hour " + hour + ", heard(0, " + what + ")", war.heard(0, what), heard[hour][what]);
            }
        }
        Check.due("orders missed at the edge", war.team(1, 6), 1);
    }
}
