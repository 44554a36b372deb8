/**
 * The sentences of the promises 14 to 24 (ways, looking ahead, drawing) that name a boundary; each is quoted over its
 * test.
 */
public final class LookEdgesTest {
    private static final String PLAIN = Check.PLAIN;
    private static final int[] RIGHTWARDS = {0, 1, 0, -1};
    private static final int[] DOWNWARDS = {-1, 0, 1, 0};

    private LookEdgesTest() {
    }

    public static void main(String[] args) {
        fewestSteps();
        noWay();
        noTunnel();
        waysOutside();
        toItsOwnCell();
        workThatIsLeft();
        itTakesAsLong();
        onlyRockBetween();
        fewestHours();
        wallThatStands();
        ofSeveralTheLeast();
        noWallAtAll();
        theHourItself();
        oneToOneHundredAndFiftyHours();
        fallsInTheNextHour();
        fallsAtMost150();
        forTheFirstTime();
        noneFallsIn();
        lastsAnHour();
        lastsAtMost150();
        goneAlready();
        nothingIsChanged();
        directionOfTheMost();
        ofSeveralTheFirst();
        behindSoManyHours();
        inThePlaceOfAllItsOrders();
        adviceOfGoneTeams();
        theFirstOfThese();
        smallestNumber();
        signsOfEarth();
        inThePlaceOfTheDrawing();
        placesOfThePaper();
        sharesOfWalls();
        wrappingAround();
        Check.end();
    }

    private static SapperWar allOf(char sign) {
        String[] lines = new String[12];
        for (int y = 0; y < 12; y++) {
            lines[y] = String.valueOf(sign).repeat(12);
        }
        return Check.war(lines);
    }

    private static SapperWar snake() {
        return Check.war("............", "###########.", "............", ".###########", "............", "###########.",
                "............", ".###########", "............", "###########.", "............", ".###########");
    }

    // "Returns the fewest steps of a way through tunnels from the one to the other one, from neighbour to neighbour"
    private static void fewestSteps() {
        for (int from = 0; from < 144; from += 13) {
            SapperWar war = allOf('.');
            for (int to = 0; to < 144; to++) {
                int due = Math.abs(from % 12 - to % 12) + Math.abs(from / 12 - to / 12);
                Check.due("way from " + from + " to " + to, war.way(from % 12, from / 12, to % 12, to / 12), due);
            }
        }
        Check.due("the longest one of a snake", snake().way(0, 0, 0, 11), 77);
        Check.due("and back", snake().way(0, 11, 0, 0), 77);
        SapperWar ring = Check.war("....", ".##.", ".##.", "....");
        Check.due("the shorter one of two", ring.way(0, 0, 3, 2), 5);
        Check.due("both as long", ring.way(0, 0, 3, 3), 6);
        Check.due("not through a team", blocked().way(0, 0, 2, 0), 2);
    }

    private static SapperWar blocked() {
        SapperWar war = Check.war("...");
        war.come(1, 1, 0, 9, 1);
        return war;
    }

    // "-1 if there is none, or one of them is no tunnel"
    private static void noWay() {
        SapperWar war = Check.war(".3.#.", "3.333", "..3");
        Check.due("over a corner", war.way(0, 0, 1, 1), -1);
        Check.due("over earth", war.way(0, 0, 2, 0), -1);
        Check.due("over rock", war.way(2, 0, 4, 0), -1);
        Check.due("there is one", war.way(1, 1, 0, 2), 2);
        SapperWar rows = Check.war("..........3.", ".");
        Check.due("no row goes on in the next one", rows.way(11, 0, 0, 1), -1);
    }

    private static void noTunnel() {
        SapperWar war = Check.war(".3#a", "..");
        for (int x = 1; x <= 3; x++) {
            Check.due("to no tunnel", war.way(0, 0, x, 0), -1);
            Check.due("from no tunnel", war.way(x, 0, 0, 0), -1);
            Check.due("both are none", war.way(x, 0, x, 0), -1);
        }
        Check.due("to itself", war.way(0, 0, 0, 0), 0);
        war.openAt(3, 0);
        Check.due("under a wall", war.way(3, 0, 3, 0), 0);
        war.openAt(1, 0);
        Check.due("an opened one", war.way(0, 0, 1, 0), 1);
        war.pass(13);
        Check.due("fallen in", war.way(0, 0, 1, 0), -1);
        Check.due("fallen in, to itself", war.way(0, 0, 0, 0), -1);
    }

    // "Throws IndexOutOfBoundsException if x, y, toX or toY is not 0 to 11"
    private static void waysOutside() {
        for (int place = 0; place < 4; place++) {
            for (int value : new int[] {-1, 12, Integer.MIN_VALUE, Integer.MAX_VALUE}) {
                int[] a = {0, 0, 11, 11};
                a[place] = value;
                Check.dueOutside("way, argument " + place, Check::busy, w -> w.way(a[0], a[1], a[2], a[3]));
                Check.dueOutside("falls", Check::busy, w -> w.falls(value, 0));
                Check.dueOutside("falls", Check::busy, w -> w.falls(11, value));
                Check.dueOutside("reach", Check::busy, w -> w.reach(0, value, 0));
                Check.dueOutside("reach", Check::busy, w -> w.reach(4, 11, value));
            }
        }
        SapperWar war = allOf('.');
        Check.due("from corner to corner", war.way(0, 0, 11, 11), 22);
        Check.due("from corner to corner", war.way(11, 0, 0, 11), 22);
    }

    // "Returns this, 0 to its own cell"
    private static void toItsOwnCell() {
        for (int cell = 0; cell < 144; cell++) {
            SapperWar war = Check.war("");
            war.openAt(cell % 12, cell / 12);
            war.come(1, cell % 12, cell / 12, 1, 5);
            Check.due("its own cell " + cell, war.reach(0, cell % 12, cell / 12), 0);
        }
    }

    // "to a neighbour that is a tunnel 1, to one that is earth as many as its skill needs for the work that is left"
    private static void workThatIsLeft() {
        for (int hardness = 1; hardness <= 9; hardness++) {
            for (int skill = 1; skill <= 5; skill++) {
                SapperWar war = Check.war("9" + hardness);
                war.openAt(0, 0);
                war.come(0, 0, 0, 9, 1);
                war.come(0, 0, 0, 9, skill);
                war.order(0, Check.DIG, Check.RIGHT, 1);
                for (int left = 3 * hardness; left > 0; left--) {
                    int hours = left / skill + (left % skill > 0 ? 1 : 0);
                    Check.due("skill " + skill + ", work left " + left, war.reach(1, 1, 0), hours);
                    war.pass(1);
                }
                Check.due("a tunnel", war.reach(1, 1, 0), 1);
            }
        }
    }

    private static void itTakesAsLong() {
        for (int skill = 1; skill <= 5; skill++) {
            SapperWar war = Check.war("9787", "####");
            war.openAt(0, 0);
            war.come(0, 0, 0, 9, skill);
            int hours = war.reach(0, 3, 0);
            war.order(0, Check.DIG, Check.RIGHT, 3);
            war.pass(hours - 1);
            Check.duePlace("not an hour less, skill " + skill, war, 0, 2, 0);
            Check.due("an hour is left", war.reach(0, 3, 0), 1);
            war.pass(1);
            Check.duePlace("it takes as long, skill " + skill, war, 0, 3, 0);
        }
    }

    // "-1 if there is only rock between, or the cell is rock"
    private static void onlyRockBetween() {
        SapperWar war = Check.war(".#.3", "##3#", "33#.", "3#3");
        war.come(0, 0, 0, 9, 5);
        for (int cell = 1; cell < 144; cell++) {
            Check.due("shut in, to " + cell, war.reach(0, cell % 12, cell / 12), -1);
        }
        Check.due("its own cell", war.reach(0, 0, 0), 0);
        SapperWar other = Check.war(".3#3", "3##3", "#333");
        other.come(0, 0, 0, 9, 5);
        Check.due("earth beside it", other.reach(0, 1, 0), 2);
        Check.due("earth below it", other.reach(0, 0, 1), 2);
        Check.due("rock", other.reach(0, 2, 0), -1);
        Check.due("rock", other.reach(0, 1, 1), -1);
        Check.due("rock between", other.reach(0, 3, 0), -1);
        Check.due("rock between, and only a corner", other.reach(0, 1, 2), -1);
    }

    // "of the cell under a wall that stands that it would reach in the fewest hours (as reach() tells them)"
    private static void fewestHours() {
        String[] maps = {".3b3a", ".9a#3b", "a.i", "i.a", ".aaa", ".#a##3b"};
        int[] due = {2, 2, 0, 2, 1, 2};
        for (int i = 0; i < maps.length; i++) {
            SapperWar war = Check.war(maps[i]);
            war.come(0, maps[i].indexOf('.'), 0, 9, 1);
            int fewest = Integer.MAX_VALUE;
            int best = -1;
            for (int cell = 0; cell < 144; cell++) {
                int hours = cell < 12 && war.cell(cell, 0, 1) > 0 ? war.reach(0, cell, 0) : -1;
                if (hours >= 0 && hours < fewest) {
                    fewest = hours;
                    best = cell;
                }
            }
            Check.due("as reach tells it, in " + maps[i], best, due[i]);
            Check.due("the target of " + maps[i], war.target(0), due[i]);
        }
        SapperWar own = Check.war("aaa", "aaa", "aaa");
        own.openAt(1, 1);
        own.come(0, 1, 1, 9, 1);
        Check.due("its own cell is reached in 0 hours", own.target(0), 13);
        SapperWar farther = Check.war("a99.b");
        farther.come(0, 3, 0, 9, 1);
        Check.due("not the least number, but the fewest hours", farther.target(0), 4);
    }

    // "a wall that stands" "with 0 it has fallen"
    private static void wallThatStands() {
        SapperWar war = Check.war("a333i");
        int[] targets = {0, 0, 0, 4};
        for (int falls = 0; falls < 4; falls++) {
            SapperWar twin = Check.war("a333i");
            for (int i = 0; i < falls; i++) {
                twin.openAt(0, 0);
                twin.pass(9);
            }
            twin.openAt(1, 0);
            twin.come(0, 1, 0, 9, 5);
            Check.due("the strength " + twin.cell(0, 0, 1), twin.target(0), targets[falls]);
        }
        war.openAt(4, 0);
        war.come(1, 4, 0, 9, 5);
        Check.due("over its own cell", war.target(0), 4);
    }

    // "of several the least"
    private static void ofSeveralTheLeast() {
        for (int walls = 1; walls < 16; walls++) {
            SapperWar war = new SapperWar();
            char[] map = (PLAIN + "\n").repeat(12).toCharArray();
            int due = -1;
            for (int direction = 3; direction >= 0; direction--) {
                if ((walls >> direction & 1) == 1) {
                    map[13 * (5 + DOWNWARDS[direction]) + 5 + RIGHTWARDS[direction]] = 'c';
                }
            }
            for (int cell = 143; cell >= 0; cell--) {
                due = map[13 * (cell / 12) + cell % 12] == 'c' ? cell : due;
            }
            Check.tape(war, new String(map));
            war.map();
            war.openAt(5, 5);
            war.come(0, 5, 5, 9, 2);
            Check.due("walls " + walls, war.target(0), due);
        }
        SapperWar all = allOf('i');
        all.openAt(0, 0);
        all.openAt(11, 11);
        all.come(0, 11, 11, 9, 1);
        Check.due("its own cell", all.target(0), 143);
    }

    // "-1 if it would reach none"
    private static void noWallAtAll() {
        SapperWar none = Check.war(".");
        none.come(0, 0, 0, 9, 5);
        Check.due("there is none", none.target(0), -1);
        SapperWar rock = Check.war(".#aa", "##");
        rock.come(0, 0, 0, 9, 5);
        Check.due("rock between", rock.target(0), -1);
        SapperWar far = Check.war(".", "9", "9", "9", "9", "9", "9", "9", "9", "9", "9", "99999999999i");
        far.come(0, 0, 0, 9, 1);
        Check.due("it may be far", far.target(0), 143);
    }

    private static SapperWar weakWall() {
        SapperWar war = Check.war("a.");
        war.openAt(0, 0);
        war.pass(5);
        war.openAt(0, 0);
        war.pass(9);
        return war;
    }

    // "0 walls that fall in them, 1 teams of the side 0 that are not gone then, 2 those of the side 1, 3 tunnels that
    // fall in in them"
    private static void theHourItself() {
        for (int side = 0; side <= 1; side++) {
            SapperWar war = weakWall();
            war.openAt(0, 0);
            war.come(side, 0, 0, 9, 1);
            for (int hours = 1; hours <= 12; hours++) {
                boolean fallen = hours >= 9;
                Check.due("walls in " + hours, war.foresee(hours, 0), fallen ? 1 : 0);
                Check.due("the team in " + hours, war.foresee(hours, 1 + side), fallen ? 0 : 1);
                Check.due("the other side in " + hours, war.foresee(hours, 2 - side), 0);
                Check.due("tunnels in " + hours, war.foresee(hours, 3), fallen ? 1 : 0);
            }
            war.pass(9);
            for (int what = 0; what < 4; what++) {
                Check.due("behind it, " + what, war.foresee(150, what), 0);
            }
        }
    }

    // "how many, 1 to 150" "Throws IllegalArgumentException .. Throws IndexOutOfBoundsException .."
    private static void oneToOneHundredAndFiftyHours() {
        for (int hours : new int[] {0, -1, 151, 200, Integer.MIN_VALUE, Integer.MAX_VALUE}) {
            Check.dueBadArgument("foresee(" + hours + ", 0)", Check::busy, w -> w.foresee(hours, 0));
            Check.dueBadArgument("foresee(" + hours + ", 4)", Check::busy, w -> w.foresee(hours, 4));
            Check.dueBadArgument("foresee(" + hours + ", -1)", Check::busy, w -> w.foresee(hours, -1));
        }
        for (int what : new int[] {-1, 4, Integer.MIN_VALUE, Integer.MAX_VALUE}) {
            Check.dueOutside("foresee(1, " + what + ")", Check::busy, w -> w.foresee(1, what));
            Check.dueOutside("foresee(150, " + what + ")", Check::busy, w -> w.foresee(150, what));
        }
        for (int late = 0; late <= 1; late++) {
            SapperWar war = fireBehind(150 + late);
            Check.due("foresee(149, 3)", war.foresee(149, 3), 0);
            Check.due("foresee(150, 3), the fall in the hour " + (150 + late), war.foresee(150, 3), 1 - late);
            Check.due("foresee(150, 1), the fall in the hour " + (150 + late), war.foresee(150, 1), late);
            Check.due("foresee(1, 1)", war.foresee(1, 1), 1);
        }
    }

    /** A team in a tunnel that falls in behind so many hours, at least 21, by its fire. */
    private static SapperWar fireBehind(int hours) {
        SapperWar war = Check.war("9");
        war.openAt(0, 0);
        war.come(0, 0, 0, 9, 1);
        for (int waits = hours - 4; waits > 0; waits -= 20) {
            war.order(0, Check.WAIT, 0, Math.min(20, waits));
        }
        war.order(0, Check.FIRE, 0, 1);
        return war;
    }

    // "Returns behind how many hours a tunnel falls in there for the first time"
    private static void fallsInTheNextHour() {
        for (int hardness = 1; hardness <= 6; hardness++) {
            SapperWar war = Check.war(String.valueOf(hardness));
            war.openAt(0, 0);
            for (int hours = 4 * hardness + 1; hours >= 1; hours--) {
                Check.due("falls, hardness " + hardness, war.falls(0, 0), hours);
                Check.due("it is still there", war.cell(0, 0, 2), 1);
                war.pass(1);
            }
            Check.due("behind it", war.falls(0, 0), -1);
            war.openAt(0, 0);
            Check.due("opened again, of the hardness 2", war.falls(0, 0), 9);
        }
    }

    // "at most 150; -1 if none does by then"
    private static void fallsAtMost150() {
        for (int hours = 21; hours <= 160; hours++) {
            Check.due("falls behind " + hours, fireBehind(hours).falls(0, 0), hours <= 150 ? hours : -1);
        }
        SapperWar war = fireBehind(151);
        war.pass(1);
        Check.due("an hour nearer", war.falls(0, 0), 150);
    }

    private static void forTheFirstTime() {
        SapperWar war = Check.war("9111");
        war.openAt(0, 0);
        war.openAt(1, 0);
        war.come(0, 0, 0, 9, 5);
        war.order(0, Check.WAIT, 0, 7);
        war.order(0, Check.DIG, Check.RIGHT, 1);
        war.order(0, Check.GO, Check.LEFT, 1);
        Check.due("it falls in twice in 150 hours", war.foresee(150, 3), 2);
        Check.due("for the first time", war.falls(1, 0), 5);
        war.pass(5);
        Check.due("for the second time", war.falls(1, 0) > 0 ? 1 : 0, 1);
        Check.due("earth now, and a tunnel by then", war.cell(1, 0, 2), 0);
    }

    private static void noneFallsIn() {
        SapperWar war = Check.war("9#3a78");
        for (int x : new int[] {0, 4, 5}) {
            war.openAt(x, 0);
        }
        for (int cell = 0; cell < 144; cell++) {
            Check.due("cell " + cell, war.falls(cell % 12, cell / 12), -1);
        }
    }

    // "Returns behind how many hours it is gone"
    private static void lastsAnHour() {
        for (int health = 1; health <= 9; health++) {
            SapperWar war = Check.war("99");
            war.openAt(0, 0);
            war.openAt(1, 0);
            war.come(0, 0, 0, health, 1);
            war.come(1, 1, 0, 9, 1);
            Check.due("by a fight, health " + health, war.lasts(0), health);
            Check.due("the other one", war.lasts(1), health == 9 ? 9 : -1);
        }
        SapperWar smoke = Check.war("9");
        smoke.openAt(0, 0);
        for (int health = 1; health <= 6; health++) {
            smoke.come(0, 0, 0, health, 1);
        }
        smoke.order(5, Check.SMOKE, 0, 1);
        int[] due = {2, 3, 4, -1, -1, -1};
        for (int t = 0; t < 6; t++) {
            Check.due("by smoke, health " + (t + 1), smoke.lasts(t), due[t]);
        }
        SapperWar fall = Check.war(".");
        fall.come(0, 0, 0, 9, 1);
        for (int hours = 13; hours >= 1; hours--) {
            Check.due("by falling in", fall.lasts(0), hours);
            fall.pass(1);
        }
        Check.due("gone", fall.lasts(0), 0);
    }

    // "at most 150; -1 if not by then"
    private static void lastsAtMost150() {
        for (int hours = 21; hours <= 160; hours++) {
            Check.due("lasts " + hours, fireBehind(hours).lasts(0), hours <= 150 ? hours : -1);
        }
    }

    // "0 if it is"
    private static void goneAlready() {
        SapperWar war = Check.busy();
        Check.due("gone", war.lasts(2), 0);
        Check.due("its health", war.team(2, 3), 0);
        Check.due("not gone", war.lasts(4) != 0 ? 1 : 0, 1);
    }

    // "(nothing is changed)", four times
    private static void nothingIsChanged() {
        SapperWar war = Check.busy();
        for (int i = 0; i < 20; i++) {
            war.foresee(1 + 7 * i, i % 4);
            war.falls(i % 12, i % 5);
            war.lasts(i % 5);
            war.advise(i % 5, 1 + 3 * i);
            war.target(i % 5);
            war.reach(i % 5, i % 12, i % 3);
            war.way(i % 12, 0, 0, i % 12);
        }
        Check.dueSame("looking ahead", war, Check.busy());
    }

    // "as many tunnels as can be are there behind so many hours"
    private static void directionOfTheMost() {
        for (int soft = 0; soft < 4; soft++) {
            SapperWar war = allOf('9');
            char[] map = ("999999999999\n").repeat(12).toCharArray();
            map[13 * (5 + DOWNWARDS[soft]) + 5 + RIGHTWARDS[soft]] = '8';
            Check.tape(war, new String(map));
            war.map();
            war.openAt(5, 5);
            war.come(0, 5, 5, 9, 4);
            Check.due("27 by 4 are 7 hours, 24 are 6: in 5", war.advise(0, 5), 0);
            Check.due("in 6", war.advise(0, 6), soft);
            Check.due("in 7", war.advise(0, 7), 0);
        }
    }

    // "of several the first one"
    private static void ofSeveralTheFirst() {
        for (int soft = 1; soft < 16; soft++) {
            SapperWar war = new SapperWar();
            char[] map = ("999999999999\n").repeat(12).toCharArray();
            int due = -1;
            for (int direction = 3; direction >= 0; direction--) {
                if ((soft >> direction & 1) == 1) {
                    map[13 * (5 + DOWNWARDS[direction]) + 5 + RIGHTWARDS[direction]] = '1';
                    due = direction;
                }
            }
            Check.tape(war, new String(map));
            war.map();
            war.openAt(5, 5);
            war.come(1, 5, 5, 9, 3);
            Check.due("soft earth " + soft, war.advise(0, 1), due);
        }
        SapperWar shut = Check.war("###", "#.#", "###");
        shut.come(0, 1, 1, 9, 5);
        Check.due("nowhere to dig", shut.advise(0, 10), 0);
        SapperWar corner = Check.war("##########.", "###########");
        corner.come(0, 10, 0, 9, 5);
        Check.due("right only", corner.advise(0, 2), 1);
    }

    // "Throws IllegalArgumentException if hours is not 1 to 60"
    private static void behindSoManyHours() {
        for (int hours : new int[] {0, -1, 61, 150, Integer.MIN_VALUE, Integer.MAX_VALUE}) {
            Check.dueBadArgument("advise(4, " + hours + ")", Check::busy, w -> w.advise(4, hours));
            Check.dueBadArgument("of a gone team, " + hours, Check::busy, w -> w.advise(2, hours));
            Check.dueOutside("no such team, " + hours, Check::busy, w -> w.advise(5, hours));
        }
        // To the right one tunnel behind 27 hours; to the left one behind 6 and 27, and two behind 6 and 54.
        SapperWar war = Check.war("############", "99999999999#", "############");
        for (int x = 3; x <= 9; x++) {
            war.openAt(x, 1);
        }
        war.come(0, 9, 1, 9, 1);
        int[][] due = {{1, 0}, {26, 0}, {27, 1}, {32, 1}, {33, 1}, {59, 1}, {60, 3}};
        for (int[] hours : due) {
            Check.due("advise(0, " + hours[0] + ")", war.advise(0, hours[0]), hours[1]);
        }
    }

    // "with a dig of 20 times in this direction in the place of all its orders"
    private static void inThePlaceOfAllItsOrders() {
        SapperWar war = Check.war("###", "9.1", "###");
        war.come(0, 1, 1, 9, 3);
        for (int i = 0; i < 12; i++) {
            war.order(0, i == 0 ? Check.FIRE : Check.DIG, Check.LEFT, 20);
        }
        Check.due("whatever its orders are", war.advise(0, 1), 1);
        Check.due("they stay", war.team(0, 5), 12);
        Check.due("the first one", war.team(0, 8), Check.FIRE);
        Check.due("its times", war.team(0, 9), 20);
        Check.due("without any", unordered().advise(0, 1), 1);
        Check.due("it still has none", unordered().team(0, 5), 0);

        // Those of the others are carried out: the one to the right is dug by the other team already.
        SapperWar others = Check.war("####", "3.1.", "####");
        others.come(0, 1, 1, 9, 3);
        others.come(0, 3, 1, 9, 5);
        Check.due("the other one waits", others.advise(0, 1), 1);
        others.order(1, Check.DIG, Check.LEFT, 1);
        Check.due("as many everywhere, in an hour", others.advise(0, 1), 0);
        Check.due("to the left, in three", others.advise(0, 3), 3);
    }

    private static SapperWar unordered() {
        SapperWar war = Check.war("###", "9.1", "###");
        war.come(0, 1, 1, 9, 3);
        return war;
    }

    // "Returns this direction (nothing is changed); -1 if the team is gone."
    private static void adviceOfGoneTeams() {
        SapperWar war = Check.busy();
        Check.due("gone, 1 hour", war.advise(2, 1), -1);
        Check.due("gone, 60 hours", war.advise(2, 60), -1);
        SapperWar fighting = Check.war("...");
        fighting.come(0, 0, 0, 1, 1);
        fighting.come(1, 1, 0, 9, 1);
        Check.due("gone in the next hour, but not yet", fighting.advise(0, 60), 0);
    }

    private static SapperWar fallenWall(char map) {
        SapperWar war = Check.war(map + ".");
        for (int i = 0; i < 3; i++) {
            war.openAt(0, 0);
            war.pass(i == 0 ? 37 : 9);
        }
        return war;
    }

    private static void dueSign(String what, SapperWar war, int x, int y, char sign) {
        Check.due(what + ", draw", war.draw(), 156);
        Check.due(what, war.byteAt(13 * y + x), sign);
    }

    // "the first of these that applies"
    private static void theFirstOfThese() {
        SapperWar fallen = fallenWall('b');
        dueSign("a fallen wall over earth", fallen, 0, 0, 'X');
        fallen.openAt(0, 0);
        dueSign("a fallen wall over a tunnel", fallen, 0, 0, 'X');
        fallen.come(1, 0, 0, 9, 1);
        dueSign("a team under it", fallen, 0, 0, '1');
        fallen.order(0, Check.SMOKE, 0, 1);
        fallen.pass(1);
        dueSign("a team under it, in smoke", fallen, 0, 0, '1');
        fallen.openAt(1, 0);
        fallen.pass(1);
        dueSign("a fallen wall over smoke", fallen, 0, 0, 'X');

        SapperWar stands = Check.war("i");
        dueSign("a wall over earth", stands, 0, 0, 'W');
        stands.openAt(0, 0);
        dueSign("a wall over a tunnel", stands, 0, 0, 'w');
        stands.come(0, 0, 0, 1, 1);
        dueSign("a team under a wall", stands, 0, 0, '0');
        stands.order(0, Check.SMOKE, 0, 1);
        stands.pass(2);
        Check.due("gone in its smoke", stands.team(0, 3), 0);
        dueSign("a wall over smoke, and a gone team", stands, 0, 0, 'w');

        SapperWar low = Check.war("a");
        for (char sign : new char[] {'W', 'W', 'W', 'X'}) {
            dueSign("the strength " + low.cell(0, 0, 1), low, 0, 0, sign);
            low.openAt(0, 0);
            dueSign("the strength " + low.cell(0, 0, 1), low, 0, 0, sign == 'W' ? 'w' : 'X');
            low.pass(9);
        }

        SapperWar smoke = Check.war("9");
        smoke.openAt(0, 0);
        smoke.come(0, 0, 0, 1, 1);
        smoke.order(0, Check.SMOKE, 0, 1);
        dueSign("a team in a tunnel", smoke, 0, 0, '0');
        smoke.pass(2);
        for (int left = 7; left >= 0; left--) {
            Check.due("the smoke", smoke.cell(0, 0, 5), left);
            dueSign("a smoke of " + left, smoke, 0, 0, left > 0 ? '*' : '.');
            smoke.pass(1);
        }
        dueSign("rock", Check.war("#"), 0, 0, '#');
    }

    // "0 or 1, where a team of this side is that is not gone (the one with the smallest number)"
    private static void smallestNumber() {
        for (int first = 0; first <= 1; first++) {
            SapperWar war = Check.war("9");
            war.openAt(0, 0);
            war.come(first, 0, 0, 1, 1);
            war.come(1 - first, 0, 0, 3, 1);
            war.come(1 - first, 0, 0, 2, 1);
            dueSign("the smallest number", war, 0, 0, (char) ('0' + first));
            war.pass(1);
            dueSign("that is not gone", war, 0, 0, (char) ('1' - first));
            war.come(first, 0, 0, 9, 1);
            dueSign("whoever comes later", war, 0, 0, (char) ('1' - first));
            war.pass(3);
            dueSign("who is left", war, 0, 0, (char) ('0' + first));
        }
    }

    // "and the hardness for earth"
    private static void signsOfEarth() {
        Check.dueDrawing("all earth", Check.war("123456789123"), "123456789123", PLAIN, PLAIN, PLAIN, PLAIN, PLAIN, PLAIN,
                PLAIN, PLAIN, PLAIN, PLAIN, PLAIN);
        SapperWar war = Check.war("9");
        war.openAt(0, 0);
        war.come(0, 0, 0, 9, 1);
        war.order(0, Check.FIRE, 0, 1);
        war.pass(4);
        dueSign("fallen in", war, 0, 0, '2');
    }

    // "in the place of what was there" "Returns how many bytes."
    private static void inThePlaceOfTheDrawing() {
        SapperWar war = new SapperWar();
        for (int cell = 0; cell < 144; cell += 11) {
            Check.due("draw", war.draw(), 156);
            Check.due("bytes of the paper", war.count(11), 156);
            Check.due("before", war.byteAt(13 * (cell / 12) + cell % 12), '3');
            war.openAt(cell % 12, cell / 12);
            Check.due("not drawn yet", war.byteAt(13 * (cell / 12) + cell % 12), '3');
            war.draw();
            Check.due("drawn", war.byteAt(13 * (cell / 12) + cell % 12), '.');
        }
    }

    // "Throws IndexOutOfBoundsException if there is no such place"
    private static void placesOfThePaper() {
        for (int place : new int[] {-1, 0, 1, 155, 156, Integer.MIN_VALUE, Integer.MAX_VALUE}) {
            Check.dueOutside("nothing drawn, byteAt(" + place + ")", SapperWar::new, w -> w.byteAt(place));
        }
        for (int place : new int[] {-1, 156, 157, 200, Integer.MIN_VALUE, Integer.MAX_VALUE}) {
            Check.dueOutside("byteAt(" + place + ")", Check::busy, w -> w.byteAt(place));
        }
        SapperWar war = Check.war(".", "", "", "", "", "", "", "", "", "", "", "33333333333#");
        war.draw();
        Check.due("the first place", war.byteAt(0), '.');
        Check.due("the last cell", war.byteAt(154), '#');
        for (int y = 0; y < 12; y++) {
            Check.due("the end of the line " + y, war.byteAt(13 * y + 12), 10);
        }
    }

    // "Returns walls that have fallen, divided by all walls; 0 if there are none."
    private static void sharesOfWalls() {
        Check.dueDouble("none", new SapperWar().share(), 0.0);
        Check.dueDouble("none has fallen", allOf('a').share(), 0.0);
        for (int walls = 1; walls <= 12; walls++) {
            SapperWar war = Check.war("a".repeat(walls));
            for (int i = 0; i < 2; i++) {
                for (int x = 0; x < walls; x++) {
                    war.openAt(x, 0);
                }
                war.pass(9);
            }
            Check.dueDouble("weak, but none has fallen", war.share(), 0.0);
            for (int x = 0; x < walls; x++) {
                war.openAt(x, 0);
                war.pass(9);
                Check.dueDouble((x + 1) + " of " + walls, war.share(), (double) (x + 1) / walls);
            }
            Check.dueDouble("all", war.share(), 1.0);
            Check.tape(war, (PLAIN + "\n").repeat(12));
            war.map();
            Check.dueDouble("none any more", war.share(), 0.0);
        }
    }

    // "which wraps around as a 64-bit integer" "(all in their order)"
    private static void wrappingAround() {
        Check.dueDigest("a new one", SapperWar::new);
        Check.dueDigest("a busy one", Check::busy);
        Check.dueDigest("with 8 teams", LookEdgesTest::eightTeams);
        Check.dueDigest("with a drawing alone", LookEdgesTest::drawn);
    }

    private static SapperWar drawn() {
        SapperWar war = new SapperWar();
        war.draw();
        return war;
    }

    private static SapperWar eightTeams() {
        SapperWar war = Check.busy();
        for (int t = 5; t < 8; t++) {
            war.come(0, 11, 11, t, 1);
        }
        war.pass(2);
        return war;
    }
}
