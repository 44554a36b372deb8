/** Promises 12 and 13: pass and count, and with them the six steps of an hour. */
public final class HourTest {
    private HourTest() {
    }

    public static void main(String[] args) {
        passing();
        waitingAndGoing();
        digging();
        diggingTogether();
        propping();
        missing();
        choking();
        fleeing();
        spreadingSmoke();
        fighting();
        fightingInNumbers();
        fightingAtOnce();
        listening();
        listeningToTheLoudest();
        burning();
        burningAlongWays();
        ageing();
        fallingWalls();
        smokeBeforeFallingIn();
        counting();
        Check.end();
    }

    private static void passing() {
        SapperWar war = new SapperWar();
        Check.dueBadArgument("pass(0)", war, () -> war.pass(0));
        Check.dueBadArgument("pass(-1)", war, () -> war.pass(-1));
        Check.dueBadArgument("pass(201)", war, () -> war.pass(201));
        Check.due("pass(1)", war.pass(1), 0);
        Check.due("pass(200)", war.pass(200), 0);
        Check.due("the hour", war.count(0), 201);
    }

    private static void waitingAndGoing() {
        SapperWar war = Check.war("...", "3.3");
        war.come(0, 0, 0, 9, 5);
        war.order(0, Check.WAIT, 0, 1);
        war.order(0, Check.GO, Check.RIGHT, 1);
        war.order(0, Check.GO, Check.DOWN, 1);
        war.order(0, Check.GO, Check.UP, 1);
        war.order(0, Check.GO, Check.LEFT, 1);
        int[] xs = {0, 1, 1, 1, 0};
        int[] ys = {0, 0, 1, 0, 0};
        for (int hour = 0; hour < 5; hour++) {
            war.pass(1);
            Check.duePlace("hour " + hour, war, 0, xs[hour], ys[hour]);
            Check.due("noise, hour " + hour, war.team(0, 7), hour == 0 ? 0 : 1);
        }
        Check.due("missed none", war.team(0, 6), 0);
    }

    private static void digging() {
        SapperWar war = Check.war(".32.b");
        war.come(0, 0, 0, 9, 4);
        war.order(0, Check.DIG, Check.RIGHT, 4);
        war.pass(1);
        Check.dueCell("4 of 9", war, 1, 0, 3, -1, 0, 0, 0, 0, 4, 0);
        Check.due("noise", war.team(0, 7), 3);
        war.pass(1);
        Check.dueCell("8 of 9", war, 1, 0, 3, -1, 0, 0, 0, 0, 8, 0);
        Check.duePlace("not through yet", war, 0, 0, 0);
        Check.due("times stay", war.team(0, 9), 4);
        war.pass(1);
        Check.dueCell("through", war, 1, 0, 3, -1, 1, 0, 1, 0, 0, 0);
        Check.duePlace("through", war, 0, 1, 0);
        Check.due("a time less", war.team(0, 9), 3);
        war.pass(2);
        Check.duePlace("6 is reached by 8", war, 0, 2, 0);
        war.pass(1);
        Check.duePlace("a tunnel is gone through", war, 0, 3, 0);
        Check.due("gone through with the noise of a dig", war.team(0, 7), 3);
        Check.due("a time less for that", war.team(0, 9), 1);
        war.pass(2);
        Check.duePlace("under a wall", war, 0, 4, 0);
        Check.dueCell("under a wall", war, 4, 0, 2, 20, 1, 0, 1, 0, 0, 0);
        Check.due("no orders left", war.team(0, 5), 0);

        SapperWar exact = Check.war(".3");
        exact.come(1, 0, 0, 9, 3);
        exact.order(0, Check.DIG, Check.RIGHT, 1);
        exact.pass(2);
        Check.due("6 of 9", exact.cell(1, 0, 6), 6);
        exact.pass(1);
        Check.due("9 of 9 is a tunnel", exact.cell(1, 0, 2), 1);

        SapperWar first = Check.war("3.");
        first.come(1, 1, 0, 9, 5);
        first.order(0, Check.DIG, Check.LEFT, 1);
        first.pass(2);
        Check.duePlace("into the cell 0", first, 0, 0, 0);

        SapperWar left = Check.war(".3");
        left.come(1, 0, 0, 9, 4);
        left.order(0, Check.DIG, Check.RIGHT, 1);
        left.pass(1);
        left.clear(0);
        left.pass(1);
        Check.due("work stays when nobody digs", left.cell(1, 0, 6), 4);
    }

    private static void diggingTogether() {
        SapperWar war = Check.war(".3.");
        war.come(0, 0, 0, 9, 3);
        war.come(0, 2, 0, 9, 2);
        war.order(0, Check.DIG, Check.RIGHT, 1);
        war.order(1, Check.DIG, Check.LEFT, 1);
        war.pass(1);
        Check.due("3 and 2", war.cell(1, 0, 6), 5);
        war.pass(1);
        Check.due("8 and 2: a tunnel by the second", war.cell(1, 0, 2), 1);
        Check.duePlace("the first is not through", war, 0, 0, 0);
        Check.duePlace("the second is", war, 1, 1, 0);
        war.pass(1);
        Check.duePlace("the first follows", war, 0, 1, 0);
        Check.due("and has no order any more", war.team(0, 5), 0);
    }

    private static void propping() {
        SapperWar war = Check.war(".");
        war.come(0, 0, 0, 9, 3);
        war.order(0, Check.PROP, 0, 20);
        war.pass(1);
        Check.dueCell("one", war, 0, 0, 3, -1, 1, 1, 1, 0, 0, 0);
        Check.due("noise", war.team(0, 7), 2);
        war.pass(1);
        Check.dueCell("two are enough: no age", war, 0, 0, 3, -1, 1, 2, 0, 0, 0, 0);
        war.pass(1);
        Check.dueCell("three", war, 0, 0, 3, -1, 1, 3, 0, 0, 0, 0);
        Check.due("times left", war.team(0, 9), 17);
        war.pass(1);
        Check.dueCell("no fourth", war, 0, 0, 3, -1, 1, 3, 0, 0, 0, 0);
        Check.due("missed", war.team(0, 6), 1);
        Check.due("noise of the missed one", war.team(0, 7), 2);
        Check.due("dropped", war.team(0, 5), 0);
    }

    private static void missing() {
        SapperWar war = Check.war("3#3", "...", "333");
        war.come(0, 1, 1, 9, 5);
        war.order(0, Check.DIG, Check.UP, 5);
        war.order(0, Check.GO, Check.UP, 5);
        war.order(0, Check.GO, Check.DOWN, 5);
        war.order(0, Check.GO, Check.LEFT, 2);
        war.order(0, Check.GO, Check.LEFT, 1);
        war.order(0, Check.DIG, Check.LEFT, 1);
        int[] missed = {1, 2, 3, 3, 4, 5, 6};
        int[] noises = {3, 1, 1, 1, 1, 1, 3};
        for (int hour = 0; hour < 7; hour++) {
            war.pass(1);
            Check.due("missed, hour " + hour, war.team(0, 6), missed[hour]);
            Check.due("noise, hour " + hour, war.team(0, 7), noises[hour]);
        }
        Check.due("all missed", war.count(9), 6);
        Check.due("rock is not worked on", war.cell(1, 0, 6), 0);
        Check.due("go does not work", war.cell(1, 2, 6), 0);

        int[][] edges = {{0, 0, Check.UP}, {11, 0, Check.RIGHT}, {0, 11, Check.DOWN}, {0, 5, Check.LEFT}};
        for (int[] edge : edges) {
            SapperWar other = new SapperWar();
            other.openAt(edge[0], edge[1]);
            other.come(0, edge[0], edge[1], 9, 5);
            other.order(0, Check.DIG, edge[2], 1);
            other.order(0, Check.GO, edge[2], 1);
            other.pass(2);
            Check.due("outside, direction " + edge[2], other.team(0, 6), 2);
            Check.duePlace("outside, direction " + edge[2], other, 0, edge[0], edge[1]);
            Check.due("outside, direction " + edge[2] + ", tunnels", other.count(4), 1);
        }
    }

    private static void choking() {
        SapperWar war = Check.war("9");
        war.openAt(0, 0);
        war.come(0, 0, 0, 9, 5);
        war.order(0, Check.SMOKE, 0, 1);
        war.order(0, Check.PROP, 0, 1);
        int[] smoke = {8, 7, 6, 5, 4, 3, 2, 1, 0, 0};
        int[] health = {9, 8, 7, 6, 6, 6, 6, 6, 6, 6};
        int[] noise = {1, 1, 1, 1, 2, 0, 0, 0, 0, 0};
        for (int hour = 0; hour < 10; hour++) {
            war.pass(1);
            Check.due("smoke, hour " + hour, war.cell(0, 0, 5), smoke[hour]);
            Check.due("health, hour " + hour, war.team(0, 3), health[hour]);
            Check.due("noise, hour " + hour, war.team(0, 7), noise[hour]);
            Check.due("the order waits, hour " + hour, war.team(0, 5), hour < 4 ? 1 : 0);
        }

        SapperWar last = Check.war("..");
        last.come(0, 0, 0, 9, 5);
        last.come(0, 0, 0, 1, 5);
        last.order(0, Check.SMOKE, 0, 1);
        last.pass(1);
        Check.dueHealth("choked", last, 9, 0);
        Check.duePlace("who is gone does not flee", last, 1, 0, 0);
        Check.due("noise of the choked", last.team(1, 7), 1);
        last.pass(1);
        Check.due("a gone team makes no noise", last.team(1, 7), 0);
    }

    private static void fleeing() {
        SapperWar first = Check.war("3.", "...", "3.");
        first.come(0, 1, 1, 9, 5);
        first.come(0, 1, 1, 9, 5);
        first.order(0, Check.SMOKE, 0, 1);
        first.order(1, Check.WAIT, 0, 1);
        first.pass(1);
        Check.duePlace("of several the first by directions", first, 1, 1, 0);
        Check.dueHealth("one less", first, 9, 8);
        Check.due("noise", first.team(1, 7), 1);
        Check.due("the order stays", first.team(1, 9), 1);

        SapperWar corner = Check.war("..");
        corner.come(0, 1, 0, 9, 5);
        corner.come(0, 1, 0, 9, 5);
        corner.order(0, Check.SMOKE, 0, 1);
        corner.pass(1);
        Check.duePlace("to the cell 0", corner, 1, 0, 0);

        SapperWar least = Check.war("3.", "...", "3.");
        least.come(0, 1, 0, 9, 5);
        least.come(0, 1, 1, 9, 5);
        least.come(0, 1, 1, 9, 5);
        least.order(0, Check.SMOKE, 0, 1);
        least.order(1, Check.SMOKE, 0, 1);
        least.pass(1);
        Check.duePlace("not where it is as bad", least, 2, 2, 1);

        SapperWar nowhere = Check.war("3.", "3.");
        nowhere.come(0, 1, 0, 9, 5);
        nowhere.come(0, 1, 1, 9, 5);
        nowhere.come(0, 1, 1, 9, 5);
        nowhere.order(0, Check.SMOKE, 0, 1);
        nowhere.order(1, Check.SMOKE, 0, 1);
        nowhere.pass(1);
        Check.duePlace("nowhere less", nowhere, 2, 1, 1);
        Check.dueHealth("nowhere less", nowhere, 9, 9, 8);
        Check.due("noise", nowhere.team(2, 7), 1);

        SapperWar lefts = Check.war("3#3", "...", "3#3");
        lefts.come(0, 2, 1, 9, 5);
        lefts.come(0, 1, 1, 9, 5);
        lefts.come(0, 1, 1, 9, 5);
        lefts.order(0, Check.SMOKE, 0, 1);
        lefts.order(1, Check.SMOKE, 0, 1);
        lefts.pass(1);
        Check.duePlace("left", lefts, 2, 0, 1);
    }

    private static void spreadingSmoke() {
        SapperWar war = Check.war("3#3", "...", "333");
        war.come(0, 1, 1, 9, 5);
        war.order(0, Check.SMOKE, 0, 2);
        war.pass(1);
        Check.due("9 / 3 less 1", war.cell(1, 1, 5), 2);
        Check.due("9 / 2 less 1", war.cell(0, 1, 5), 3);
        Check.due("9 / 2 less 1", war.cell(2, 1, 5), 3);
        Check.due("all smoke", war.count(7), 8);
        Check.due("none in rock", war.cell(1, 0, 5), 0);
        Check.due("none in earth", war.cell(1, 2, 5), 0);
        war.pass(1);
        Check.due("15 / 3 less 1", war.cell(1, 1, 5), 4);
        Check.due("12 / 2 less 1", war.cell(0, 1, 5), 5);
        war.pass(1);
        Check.due("14 / 3 less 1", war.cell(1, 1, 5), 3);
        Check.due("9 / 2 less 1", war.cell(2, 1, 5), 3);

        SapperWar open = Check.war("3.3", "...", "3.3");
        open.come(0, 1, 1, 9, 5);
        open.order(0, Check.SMOKE, 0, 1);
        open.pass(1);
        Check.due("9 / 5 less 1", open.cell(1, 1, 5), 0);
        Check.due("up", open.cell(1, 0, 5), 3);
        Check.due("right", open.cell(2, 1, 5), 3);
        Check.due("down", open.cell(1, 2, 5), 3);
        Check.due("left", open.cell(0, 1, 5), 3);

        SapperWar edge = Check.war("3333333333..", "...");
        edge.come(0, 11, 0, 9, 5);
        edge.order(0, Check.SMOKE, 0, 1);
        edge.pass(1);
        Check.due("it does not go round the edge", edge.cell(0, 1, 5), 0);
        Check.due("at the edge", edge.cell(11, 0, 5), 3);
    }

    private static void fighting() {
        SapperWar war = Check.war("....", "..");
        war.come(0, 1, 0, 9, 5);
        war.come(1, 2, 0, 3, 5);
        war.order(0, Check.GO, Check.LEFT, 1);
        war.order(1, Check.GO, Check.RIGHT, 1);
        war.pass(1);
        Check.dueHealth("neighbours fight", war, 8, 2);
        Check.due("noise", war.team(0, 7), 6);
        Check.due("noise", war.team(1, 7), 6);
        Check.duePlace("who fights does not go", war, 0, 1, 0);
        Check.due("the order stays", war.team(0, 9), 1);
        war.pass(2);
        Check.dueHealth("until one is gone", war, 6, 0);
        war.pass(1);
        Check.dueHealth("then nobody fights", war, 6, 0);
        Check.duePlace("and the order is carried out", war, 0, 0, 0);

        int[][] places = {{1, 0, 1}, {1, 2, 1}, {0, 1, 1}, {2, 1, 1}, {1, 1, 1}, {0, 0, 0}, {2, 0, 0}, {0, 2, 0}, {2, 2, 0}};
        for (int[] place : places) {
            SapperWar other = Check.war("...", "...", "...");
            other.come(0, 1, 1, 9, 5);
            other.come(1, place[0], place[1], 9, 5);
            other.pass(1);
            Check.dueHealth("enemy at " + place[0] + " " + place[1], other, 9 - place[2], 9 - place[2]);
        }

        SapperWar wall = Check.war(".", "3333333333..", "");
        wall.openAt(0, 2);
        wall.come(0, 11, 1, 9, 5);
        wall.come(1, 0, 2, 9, 5);
        wall.pass(1);
        Check.dueHealth("cells at the two edges are no neighbours", wall, 9, 9);

        SapperWar same = Check.war("..");
        same.come(1, 0, 0, 9, 5);
        same.come(1, 1, 0, 9, 5);
        same.pass(1);
        Check.dueHealth("one side does not fight itself", same, 9, 9);
    }

    private static void fightingInNumbers() {
        SapperWar war = Check.war("...", "...", "...");
        war.come(0, 1, 1, 9, 5);
        war.come(1, 1, 0, 9, 5);
        war.come(1, 0, 1, 9, 5);
        war.pass(1);
        Check.dueHealth("two enemies", war, 7, 8, 8);
        war.come(1, 1, 1, 9, 5);
        war.come(1, 2, 1, 9, 5);
        war.pass(1);
        Check.dueHealth("four enemies, at most 3", war, 4, 7, 7, 8, 8);

        SapperWar late = Check.war(".....");
        late.come(0, 2, 0, 9, 5);
        late.come(1, 3, 0, 9, 5);
        late.come(1, 0, 0, 9, 5);
        late.order(2, Check.GO, Check.RIGHT, 1);
        late.pass(1);
        Check.dueHealth("who only comes near does not fight yet", late, 8, 8, 9);
        Check.duePlace("it came near", late, 2, 1, 0);
        late.pass(1);
        Check.dueHealth("now it does", late, 6, 7, 8);
    }

    private static void fightingAtOnce() {
        SapperWar war = Check.war("..");
        war.come(0, 0, 0, 1, 5);
        war.come(1, 1, 0, 1, 5);
        war.come(1, 1, 0, 2, 5);
        war.pass(1);
        Check.dueHealth("both at once, not below 0", war, 0, 0, 1);
        Check.due("side 0", war.count(2), 0);
        Check.due("side 1", war.count(3), 1);

        SapperWar moved = Check.war("....");
        moved.come(0, 0, 0, 9, 5);
        moved.come(1, 2, 0, 9, 5);
        moved.order(0, Check.GO, Check.RIGHT, 1);
        moved.order(1, Check.GO, Check.RIGHT, 1);
        moved.pass(1);
        Check.due("the first went", moved.team(0, 7), 1);
        Check.due("the second sees it, and fights", moved.team(1, 7), 6);
        Check.dueHealth("nobody fights with it", moved, 9, 9);
    }

    private static SapperWar listenTo(int x, int y, int kind, int times) {
        SapperWar war = new SapperWar();
        war.openAt(5, 5);
        war.openAt(x, y);
        war.come(0, 5, 5, 9, 1);
        war.come(1, x, y, 9, 1);
        war.order(0, Check.LISTEN, 0, times);
        war.order(1, kind, Check.UP, times);
        war.pass(1);
        return war;
    }

    private static void dueHeard(String what, SapperWar war, int hour, int direction, int loudness) {
        Check.due(what + ", hour", war.heard(0, 0), hour);
        Check.due(what + ", direction", war.heard(0, 1), direction);
        Check.due(what + ", how loud", war.heard(0, 2), loudness);
    }

    private static void listening() {
        dueHeard("up", listenTo(5, 2, Check.DIG, 1), 0, 0, 6);
        dueHeard("right", listenTo(8, 5, Check.DIG, 1), 0, 1, 6);
        dueHeard("down", listenTo(5, 8, Check.DIG, 1), 0, 2, 6);
        dueHeard("left", listenTo(2, 5, Check.DIG, 1), 0, 3, 6);
        dueHeard("as far up as right", listenTo(7, 3, Check.DIG, 1), 0, 0, 5);
        dueHeard("as far down as left", listenTo(3, 7, Check.DIG, 1), 0, 2, 5);
        dueHeard("more right than down", listenTo(8, 7, Check.DIG, 1), 0, 1, 4);
        dueHeard("more left than up", listenTo(2, 4, Check.DIG, 1), 0, 3, 5);
        dueHeard("a missed go, just heard", listenTo(9, 5, Check.GO, 1), 0, 1, 1);
        dueHeard("a missed go, just not heard", listenTo(10, 5, Check.GO, 1), -1, -1, -1);
        dueHeard("a prop", listenTo(5, 9, Check.PROP, 1), 0, 2, 3);
        dueHeard("smoke", listenTo(5, 7, Check.SMOKE, 1), 0, 2, 3);
        dueHeard("fire", listenTo(5, 0, Check.FIRE, 1), 0, 0, 6);
        dueHeard("fire at 10", listenTo(10, 10, Check.FIRE, 1), 0, 2, 1);
        dueHeard("fire at 11", listenTo(11, 10, Check.FIRE, 1), -1, -1, -1);
        dueHeard("waiting is no noise", listenTo(5, 7, Check.WAIT, 1), -1, -1, -1);
        dueHeard("listening is no noise", listenTo(5, 7, Check.LISTEN, 1), -1, -1, -1);

        SapperWar two = listenTo(5, 9, Check.PROP, 2);
        two.pass(1);
        dueHeard("the latest time", two, 1, 2, 3);

        SapperWar own = Check.war(".3.");
        own.come(0, 0, 0, 9, 1);
        own.come(0, 2, 0, 9, 1);
        own.order(0, Check.LISTEN, 0, 1);
        own.order(1, Check.DIG, Check.RIGHT, 1);
        own.pass(1);
        dueHeard("its own side is not heard", own, -1, -1, -1);

        dueHeard("over a corner down", listenTo(6, 6, Check.DIG, 1), 0, 2, 7);
        dueHeard("over a corner up", listenTo(4, 4, Check.DIG, 1), 0, 0, 7);

        SapperWar beside = Check.war("......");
        beside.come(0, 0, 0, 9, 1);
        beside.come(1, 2, 0, 9, 1);
        beside.order(0, Check.LISTEN, 0, 1);
        beside.order(1, Check.GO, Check.LEFT, 1);
        beside.pass(1);
        dueHeard("right beside it", beside, 0, 1, 4);

        SapperWar once = Check.war(".3.");
        once.come(0, 0, 0, 9, 1);
        once.come(1, 2, 0, 9, 1);
        once.order(0, Check.LISTEN, 0, 1);
        once.order(0, Check.WAIT, 0, 1);
        once.order(1, Check.WAIT, 0, 1);
        once.order(1, Check.PROP, 0, 1);
        once.pass(2);
        dueHeard("it does not listen any more", once, -1, -1, -1);

        SapperWar corner = Check.war(".3.");
        corner.come(1, 0, 0, 9, 1);
        corner.come(0, 2, 0, 9, 1);
        corner.order(0, Check.PROP, 0, 1);
        corner.order(1, Check.LISTEN, 0, 1);
        corner.pass(1);
        Check.due("team 0 in the cell 0 is heard, hour", corner.heard(1, 0), 0);
        Check.due("team 0 in the cell 0 is heard, direction", corner.heard(1, 1), 3);
        Check.due("team 0 in the cell 0 is heard, how loud", corner.heard(1, 2), 5);

        SapperWar moved = Check.war("......");
        moved.come(0, 0, 0, 9, 1);
        moved.come(1, 4, 0, 9, 1);
        moved.order(0, Check.LISTEN, 0, 1);
        moved.order(1, Check.GO, Check.LEFT, 1);
        moved.pass(1);
        dueHeard("from where it went to", moved, 0, 1, 2);
    }

    private static void listeningToTheLoudest() {
        SapperWar war = Check.war("......", "#", "", "", ".");
        war.come(0, 0, 0, 9, 1);
        war.come(1, 4, 0, 9, 1);
        war.come(1, 0, 4, 9, 1);
        war.come(1, 5, 0, 9, 1);
        war.order(0, Check.LISTEN, 0, 3);
        war.order(1, Check.PROP, 0, 1);
        war.order(1, Check.PROP, 0, 1);
        war.order(2, Check.PROP, 0, 1);
        war.order(2, Check.DIG, Check.RIGHT, 1);
        war.order(3, Check.WAIT, 0, 2);
        war.order(3, Check.FIRE, 0, 1);
        war.pass(1);
        dueHeard("of several as loud the smallest number", war, 0, 1, 3);
        war.pass(1);
        dueHeard("the loudest", war, 1, 2, 5);
        war.clear(1);
        war.clear(2);
        war.pass(1);
        dueHeard("the loudest from far", war, 2, 1, 6);

        SapperWar gone = Check.war("......");
        gone.come(0, 0, 0, 9, 1);
        gone.come(1, 4, 0, 1, 1);
        gone.come(0, 5, 0, 9, 1);
        gone.order(0, Check.LISTEN, 0, 2);
        gone.pass(1);
        Check.dueHealth("the enemy is gone", gone, 9, 0, 8);
        dueHeard("and is still heard", gone, 0, 1, 11);
        gone.pass(1);
        dueHeard("but not in the next hour", gone, 0, 1, 11);
    }

    private static void burning() {
        SapperWar war = Check.war(".......");
        war.come(0, 3, 0, 9, 1);
        war.come(0, 1, 0, 9, 1);
        war.come(0, 0, 0, 9, 1);
        war.order(0, Check.PROP, 0, 2);
        war.order(0, Check.FIRE, 0, 1);
        war.order(0, Check.PROP, 0, 1);
        war.order(0, Check.FIRE, 0, 1);
        war.order(1, Check.PROP, 0, 2);
        war.order(2, Check.PROP, 0, 2);
        war.pass(2);
        Check.due("two props", war.cell(1, 0, 3), 2);
        war.pass(1);
        Check.due("noise", war.team(0, 7), 4);
        Check.dueCell("its cell", war, 3, 0, 3, -1, 1, 0, 0, 0, 0, 3);
        Check.dueCell("two steps away", war, 1, 0, 3, -1, 1, 0, 0, 0, 0, 3);
        Check.dueCell("three steps away", war, 0, 0, 3, -1, 1, 2, 0, 0, 0, 0);
        Check.due("two steps to the right", war.cell(5, 0, 7), 3);
        Check.due("three steps to the right", war.cell(6, 0, 7), 0);
        Check.due("age while it burns", war.cell(5, 0, 4), 2);
        war.pass(1);
        Check.dueCell("a prop in the fire", war, 3, 0, 3, -1, 1, 1, 0, 0, 0, 2);
        war.pass(1);
        Check.dueCell("a second fire takes the prop, not the hours", war, 3, 0, 3, -1, 1, 0, 0, 0, 0, 1);
        Check.due("none fell in yet", war.count(8), 0);
        war.pass(1);
        Check.due("five fall in", war.count(8), 5);
        Check.dueCell("fallen in", war, 3, 0, 2, -1, 0, 0, 0, 0, 0, 0);
        Check.dueHealth("teams there", war, 0, 0, 9);
        Check.duePlace("where it was", war, 0, 3, 0);
        Check.due("tunnels left", war.count(4), 2);

        SapperWar hard = Check.war("9");
        hard.openAt(0, 0);
        hard.come(0, 0, 0, 9, 1);
        hard.order(0, Check.FIRE, 0, 1);
        hard.pass(3);
        Check.due("hard earth burns too", hard.cell(0, 0, 7), 1);
        hard.pass(1);
        Check.dueCell("and falls in", hard, 0, 0, 2, -1, 0, 0, 0, 0, 0, 0);
    }

    private static void burningAlongWays() {
        SapperWar war = Check.war(".....", "3#3.", ".#3.", "..");
        war.openAt(0, 1);
        war.come(0, 0, 0, 9, 1);
        war.order(0, Check.FIRE, 0, 1);
        war.pass(1);
        Check.due("(1, 0)", war.cell(1, 0, 7), 3);
        Check.due("(2, 0)", war.cell(2, 0, 7), 3);
        Check.due("(3, 0) is too far", war.cell(3, 0, 7), 0);
        Check.due("(0, 2)", war.cell(0, 2, 7), 3);
        Check.due("(0, 3) is too far", war.cell(0, 3, 7), 0);
        Check.due("rock", war.cell(1, 1, 7), 0);

        SapperWar back = Check.war("...", "#..", "##.");
        back.come(0, 2, 2, 9, 1);
        back.come(0, 2, 0, 9, 1);
        back.order(0, Check.FIRE, 0, 1);
        back.pass(1);
        Check.due("one up", back.cell(2, 1, 7), 3);
        Check.due("two up", back.cell(2, 0, 7), 3);
        Check.due("up and left", back.cell(1, 1, 7), 3);
        Check.due("three", back.cell(1, 0, 7), 0);
        back.order(1, Check.FIRE, 0, 1);
        back.pass(1);
        Check.due("up to the cell 0", back.cell(0, 0, 7), 3);
        Check.due("what burnt already", back.cell(2, 0, 7), 2);

        SapperWar first = Check.war("..");
        first.come(0, 1, 0, 9, 1);
        first.order(0, Check.FIRE, 0, 1);
        first.pass(1);
        Check.due("the cell 0 beside it", first.cell(0, 0, 7), 3);

        SapperWar gap = Check.war(".3.", "3..");
        gap.come(0, 0, 0, 9, 1);
        gap.order(0, Check.FIRE, 0, 1);
        gap.pass(1);
        Check.due("its cell", gap.cell(0, 0, 7), 3);
        Check.due("near, but without a way", gap.cell(2, 0, 7), 0);
        Check.due("near, but without a way", gap.cell(1, 1, 7), 0);
        Check.due("earth does not burn", gap.cell(1, 0, 7), 0);

        SapperWar corner = Check.war("..", "3.");
        corner.come(0, 0, 0, 9, 1);
        corner.order(0, Check.FIRE, 0, 1);
        corner.pass(1);
        Check.due("round a corner", corner.cell(1, 1, 7), 3);
    }

    private static void ageing() {
        int[] fallsIn = {5, 9, 13, 17, 21, 25, 0, 0, 0};
        for (int x = 0; x < 9; x++) {
            SapperWar war = Check.war("123456789");
            for (int i = 0; i < 9; i++) {
                war.openAt(i, 0);
            }
            for (int hour = 1; hour <= 30; hour++) {
                war.pass(1);
                boolean fell = fallsIn[x] != 0 && hour >= fallsIn[x];
                Check.due("tunnel, hour " + hour + ", hardness " + (x + 1), war.cell(x, 0, 2), fell ? 0 : 1);
                Check.due("age, hour " + hour + ", hardness " + (x + 1), war.cell(x, 0, 4),
                        fell || fallsIn[x] == 0 ? 0 : hour);
                Check.due("hardness, hour " + hour, war.cell(x, 0, 0), fell ? 2 : x + 1);
            }
            Check.due("fell in", war.count(8), 6);
        }

        SapperWar one = Check.war(".");
        one.come(0, 0, 0, 9, 1);
        one.order(0, Check.PROP, 0, 1);
        one.pass(12);
        Check.dueCell("one prop is not enough", one, 0, 0, 3, -1, 1, 1, 12, 0, 0, 0);
        one.pass(1);
        Check.dueCell("without its prop", one, 0, 0, 2, -1, 0, 0, 0, 0, 0, 0);
        one.openAt(0, 0);
        Check.dueCell("and nothing is left in a new tunnel", one, 0, 0, 2, -1, 1, 0, 0, 0, 0, 0);

        for (int hardness = 1; hardness <= 7; hardness++) {
            int needed = hardness >= 7 ? 0 : hardness >= 4 ? 1 : 2;
            for (int props = 0; props <= 3; props++) {
                SapperWar other = Check.war("" + hardness);
                other.openAt(0, 0);
                other.come(0, 0, 0, 9, 1);
                if (props > 0) {
                    other.order(0, Check.PROP, 0, props);
                }
                other.pass(4);
                int age = props >= needed ? 0 : 4;
                Check.due("hardness " + hardness + ", props " + props, other.cell(0, 0, 4), age);
            }
        }
    }

    private static void fallingWalls() {
        SapperWar war = Check.war("abb");
        war.openAt(0, 0);
        war.openAt(1, 0);
        Check.due("4 hours", war.pass(4), 0);
        Check.due("the fall in of the first", war.pass(1), 0);
        Check.dueCell("8 less", war, 0, 0, 2, 12, 0, 0, 0, 0, 0, 0);
        Check.due("the second still stands whole", war.cell(1, 0, 1), 20);
        Check.due("the second falls in", war.pass(4), 0);
        Check.due("8 less", war.cell(1, 0, 1), 12);
        war.openAt(0, 0);
        war.openAt(1, 0);
        Check.due("both again", war.pass(9), 0);
        Check.due("16 less", war.cell(0, 0, 1), 4);
        Check.due("walls that stand", war.count(5), 3);
        war.openAt(0, 0);
        war.openAt(1, 0);
        Check.due("both walls fall", war.pass(9), 2);
        Check.dueCell("not below 0", war, 0, 0, 2, 0, 0, 0, 0, 0, 0, 0);
        Check.due("walls that stand", war.count(5), 1);
        Check.due("walls that fell", war.count(6), 2);
        war.openAt(0, 0);
        Check.due("a fallen wall does not fall again", war.pass(9), 0);
        Check.due("it stays at 0", war.cell(0, 0, 1), 0);
        Check.due("fell in in all", war.count(8), 7);
    }

    private static void smokeBeforeFallingIn() {
        SapperWar war = Check.war("..");
        war.pass(12);
        war.come(0, 0, 0, 9, 1);
        war.order(0, Check.PROP, 0, 2);
        Check.due("both fall in in the next hour", war.falls(1, 0), 1);
        war.clear(0);
        SapperWar other = Check.war("3.");
        other.pass(12);
        other.openAt(0, 0);
        other.come(0, 0, 0, 9, 1);
        other.order(0, Check.SMOKE, 0, 1);
        other.pass(1);
        Check.due("the neighbour fell in", other.cell(1, 0, 2), 0);
        Check.due("behind the smoke went there", other.cell(0, 0, 5), 3);
        Check.due("its smoke is gone", other.count(7), 3);
    }

    private static void counting() {
        SapperWar war = Check.war("..a.b#", "9");
        Check.dueOutside("count(-1)", war, () -> war.count(-1));
        Check.dueOutside("count(12)", war, () -> war.count(12));
        war.come(0, 0, 0, 9, 1);
        war.come(0, 0, 0, 9, 1);
        war.come(0, 3, 0, 9, 1);
        war.come(1, 3, 0, 1, 1);
        war.order(0, Check.GO, Check.UP, 1);
        war.order(1, Check.SMOKE, 0, 1);
        war.openAt(4, 0);
        war.feed(0, 0, 0, 0, 0);
        war.draw();
        war.pass(1);
        int[] want = {1, 4, 3, 0, 4, 2, 0, 6, 0, 1, 20, 156};
        for (int what = 0; what < 12; what++) {
            Check.due("count(" + what + ")", war.count(what), want[what]);
        }
    }
}
