/**
 * The sentences of "An hour goes like this" and of the promises 12 and 13 that name a boundary; each is quoted over
 * its test.
 */
public final class HourEdgesTest {
    private static final int[] RIGHTWARDS = {0, 1, 0, -1};
    private static final int[] DOWNWARDS = {-1, 0, 1, 0};

    private HourEdgesTest() {
    }

    public static void main(String[] args) {
        oneToTwoHundredHours();
        manyHoursAreSingleOnes();
        inItsCellOrANeighbour();
        thoseThatAreNotGone();
        aSmokeOfSixOrMore();
        notFleeingIfGone();
        noNeighbourWithATunnel();
        theLeastSmoke();
        onlyIfLessThanHere();
        byNumbers();
        stepsToEachSide();
        throughEarth();
        againstRock();
        threeTimesTheHardness();
        workOfSeveral();
        fewerThanThreeProps();
        droppedWhenMissed();
        atMostTwoSteps();
        notAcrossEarth();
        burningOnce();
        atMostThreeLess();
        thoseThatFight();
        howLoud();
        whichDirection();
        asLoud();
        noNoiseAtAll();
        alsoIfTheyAreGone();
        inThePlaceOfWhatItRemembered();
        howManyTheseAre();
        smokeIsAtLeastNone();
        byWhatWasBefore();
        propsThatAreNeeded();
        moreThanFourTimesItsHardness();
        propsInTheLastHour();
        fireInTheLastHour();
        withoutAWall();
        atLeastNoStrength();
        wallsThatFall();
        oneHourGreater();
        countingNone();
        countingAll();
        inAll();
        Check.end();
    }

    private static SapperWar allOf(char sign) {
        String[] lines = new String[12];
        for (int y = 0; y < 12; y++) {
            lines[y] = String.valueOf(sign).repeat(12);
        }
        return Check.war(lines);
    }

    private static int distance(int x, int y, int toX, int toY) {
        return Math.abs(x - toX) + Math.abs(y - toY);
    }

    // "Throws IllegalArgumentException if hours is not 1 to 200"
    private static void oneToTwoHundredHours() {
        for (int hours : new int[] {1, 2, 199, 200}) {
            SapperWar war = new SapperWar();
            Check.due("pass(" + hours + ")", war.pass(hours), 0);
            Check.due("the hour", war.count(0), hours);
        }
        for (int hours : new int[] {0, -1, 201, 1000, Integer.MIN_VALUE, Integer.MAX_VALUE}) {
            Check.dueBadArgument("pass(" + hours + ")", Check::busy, w -> w.pass(hours));
        }
    }

    private static void manyHoursAreSingleOnes() {
        SapperWar war = Check.busy();
        SapperWar twin = Check.busy();
        int walls = 0;
        for (int hour = 0; hour < 200; hour++) {
            walls += twin.pass(1);
        }
        Check.due("pass(200)", war.pass(200), walls);
        Check.dueSame("pass(200)", war, twin);
    }

    // "If a team of the other side .. is in its cell, or in a neighbour of it, it fights (noise 6)."
    private static void inItsCellOrANeighbour() {
        int[][] places = {{5, 5}, {0, 0}, {11, 0}, {0, 11}, {11, 11}, {0, 5}};
        for (int[] place : places) {
            for (int cell = 0; cell < 144; cell++) {
                SapperWar war = allOf('.');
                war.come(0, place[0], place[1], 9, 1);
                war.come(1, cell % 12, cell / 12, 9, 1);
                war.pass(1);
                boolean near = distance(place[0], place[1], cell % 12, cell / 12) <= 1;
                Check.dueHealth("an enemy in " + cell, war, near ? 8 : 9, near ? 8 : 9);
                Check.due("noise, with an enemy in " + cell, war.team(0, 7), near ? 6 : 0);
                SapperWar same = allOf('.');
                same.come(1, place[0], place[1], 9, 1);
                same.come(1, cell % 12, cell / 12, 9, 1);
                same.pass(1);
                Check.dueHealth("one of its side in " + cell, same, 9, 9);
            }
        }
    }

    // "Teams that are not gone, by numbers" "If a team of the other side that is not gone"
    private static void thoseThatAreNotGone() {
        SapperWar war = Check.war("...");
        war.come(0, 0, 0, 1, 1);
        war.come(1, 1, 0, 9, 1);
        war.order(0, Check.PROP, 0, 1);
        war.order(1, Check.GO, Check.LEFT, 1);
        war.pass(1);
        Check.dueHealth("both fought", war, 0, 8);
        war.pass(1);
        Check.dueHealth("with a gone one nobody fights", war, 0, 8);
        Check.duePlace("it goes into its cell", war, 1, 0, 0);
        Check.due("a gone team carries nothing out", war.cell(0, 0, 3), 0);
        Check.due("and keeps its order", war.team(0, 5), 1);
    }

    // "with a smoke of 6 or more in its cell, its health is 1 less": 9, 8, 7, 6 are that, 5 is not.
    private static void aSmokeOfSixOrMore() {
        for (int smoke = 9; smoke >= 0; smoke--) {
            SapperWar war = Check.war("9");
            war.openAt(0, 0);
            war.come(0, 0, 0, 9, 1);
            war.order(0, Check.SMOKE, 0, 1);
            if (smoke < 9) {
                war.pass(9 - smoke);
                Check.due("the smoke", war.cell(0, 0, 5), smoke);
            }
            war.come(0, 0, 0, 9, 1);
            war.order(1, Check.PROP, 0, 1);
            war.pass(1);
            boolean chokes = smoke >= 6;
            Check.due("health in a smoke of " + smoke, war.team(1, 3), chokes ? 8 : 9);
            Check.due("noise in a smoke of " + smoke, war.team(1, 7), chokes ? 1 : 2);
            Check.due("the order in a smoke of " + smoke, war.team(1, 5), chokes ? 1 : 0);
        }
    }

    // "and it flees, if it is not gone then"
    private static void notFleeingIfGone() {
        for (int health = 1; health <= 9; health++) {
            SapperWar war = Check.war("..");
            war.come(0, 0, 0, 9, 1);
            war.come(0, 0, 0, health, 1);
            war.order(0, Check.SMOKE, 0, 1);
            war.order(1, Check.WAIT, 0, 1);
            war.pass(1);
            Check.due("health", war.team(1, 3), health - 1);
            Check.duePlace("with a health of " + health, war, 1, health > 1 ? 1 : 0, 0);
            Check.due("teams that are not gone", war.count(2), health > 1 ? 2 : 1);
            Check.due("the order waits", war.team(1, 5), 1);
        }
    }

    // "to that neighbour with a tunnel": each neighbour is earth, a tunnel with a smoke of 9, or one without.
    private static void noNeighbourWithATunnel() {
        for (int kinds = 0; kinds < 81; kinds++) {
            SapperWar war = new SapperWar();
            war.openAt(5, 5);
            war.come(0, 5, 5, 9, 1);
            war.order(0, Check.SMOKE, 0, 1);
            int teams = 1;
            int due = -1;
            for (int direction = 0, rest = kinds; direction < 4; direction++, rest /= 3) {
                int x = 5 + RIGHTWARDS[direction];
                int y = 5 + DOWNWARDS[direction];
                if (rest % 3 > 0) {
                    war.openAt(x, y);
                }
                if (rest % 3 == 1) {
                    war.come(0, x, y, 9, 1);
                    war.order(teams, Check.SMOKE, 0, 1);
                    teams++;
                }
                if (rest % 3 == 2 && due < 0) {
                    due = direction;
                }
            }
            war.come(0, 5, 5, 9, 1);
            war.pass(1);
            Check.duePlace("neighbours " + kinds, war, teams, due < 0 ? 5 : 5 + RIGHTWARDS[due],
                    due < 0 ? 5 : 5 + DOWNWARDS[due]);
            Check.due("health", war.team(teams, 3), 8);
            Check.due("noise", war.team(teams, 7), 1);
        }
    }

    // "with the least smoke, of several the first one by directions"
    private static void theLeastSmoke() {
        for (int hours = 0; hours < 256; hours++) {
            SapperWar war = new SapperWar();
            int earliest = 4;
            int due = -1;
            for (int direction = 0, rest = hours; direction < 4; direction++, rest /= 4) {
                int x = 5 + RIGHTWARDS[direction];
                int y = 5 + DOWNWARDS[direction];
                war.openAt(x, y);
                war.come(0, x, y, 9, 1);
                if (rest % 4 > 0) {
                    war.order(direction, Check.WAIT, 0, rest % 4);
                }
                war.order(direction, Check.SMOKE, 0, 1);
                if (rest % 4 < earliest) {
                    earliest = rest % 4;
                    due = direction;
                }
            }
            war.pass(4);
            Check.due("the least smoke", war.cell(5 + RIGHTWARDS[due], 5 + DOWNWARDS[due], 5), 5 + earliest);
            war.openAt(5, 5);
            war.come(0, 5, 5, 9, 1);
            war.come(0, 5, 5, 9, 1);
            war.order(4, Check.SMOKE, 0, 1);
            war.pass(1);
            Check.duePlace("smoked " + hours, war, 5, 5 + RIGHTWARDS[due], 5 + DOWNWARDS[due]);
        }
    }

    // "if this is less than here"
    private static void onlyIfLessThanHere() {
        SapperWar war = Check.war("99");
        war.openAt(0, 0);
        war.come(0, 0, 0, 9, 1);
        war.order(0, Check.SMOKE, 0, 1);
        war.pass(1);
        Check.due("8 here", war.cell(0, 0, 5), 8);
        war.openAt(1, 0);
        war.come(0, 1, 0, 9, 1);
        war.come(0, 0, 0, 9, 1);
        war.come(0, 1, 0, 9, 1);
        war.order(1, Check.SMOKE, 0, 1);
        war.pass(1);
        Check.duePlace("8 here, 0 there", war, 0, 1, 0);
        Check.duePlace("8 here, 9 there", war, 2, 0, 0);
        Check.duePlace("9 here, 8 there", war, 3, 0, 0);
        Check.dueHealth("all but who smoked", war, 8, 9, 8, 8);
        Check.due("as much in both", war.cell(0, 0, 5), 7);
        Check.due("as much in both", war.cell(1, 0, 5), 7);
        war.pass(1);
        Check.duePlace("7 here, 7 there", war, 0, 1, 0);
        Check.duePlace("7 here, 7 there", war, 2, 0, 0);
        Check.dueHealth("all choke", war, 7, 8, 7, 7);
    }

    // "by numbers": what a team does is done before the next one's turn.
    private static void byNumbers() {
        SapperWar war = Check.war(".1");
        war.come(0, 0, 0, 9, 5);
        war.come(0, 0, 0, 9, 5);
        war.order(0, Check.DIG, Check.RIGHT, 1);
        war.order(1, Check.GO, Check.RIGHT, 1);
        war.pass(1);
        Check.duePlace("the tunnel is there already", war, 1, 1, 0);

        SapperWar turned = Check.war(".1");
        turned.come(0, 0, 0, 9, 5);
        turned.come(0, 0, 0, 9, 5);
        turned.order(1, Check.DIG, Check.RIGHT, 1);
        turned.order(0, Check.GO, Check.RIGHT, 1);
        turned.pass(1);
        Check.duePlace("the tunnel is not there yet", turned, 0, 0, 0);
        Check.due("missed", turned.team(0, 6), 1);
    }

    // "it goes to the neighbour in its direction, if this is a tunnel" "(outside, ..)"
    private static void stepsToEachSide() {
        for (int cell = 0; cell < 144; cell++) {
            for (int direction = 0; direction < 4; direction++) {
                SapperWar war = allOf('.');
                war.come(0, cell % 12, cell / 12, 9, 1);
                war.come(0, cell % 12, cell / 12, 9, 1);
                war.order(0, Check.GO, direction, 1);
                war.order(1, Check.DIG, direction, 1);
                war.pass(1);
                int x = cell % 12 + RIGHTWARDS[direction];
                int y = cell / 12 + DOWNWARDS[direction];
                boolean inside = x >= 0 && x < 12 && y >= 0 && y < 12;
                for (int team = 0; team < 2; team++) {
                    Check.duePlace("from " + cell + " to " + direction, war, team, inside ? x : cell % 12,
                            inside ? y : cell / 12);
                    Check.due("missed", war.team(team, 6), inside ? 0 : 1);
                    Check.due("orders", war.team(team, 5), 0);
                    Check.due("noise", war.team(team, 7), team == 0 ? 1 : 3);
                }
            }
        }
    }

    // "(.. or, for go, earth)"
    private static void throughEarth() {
        for (int direction = 0; direction < 4; direction++) {
            for (char sign : new char[] {'1', 'a'}) {
                SapperWar war = allOf(sign);
                war.openAt(5, 5);
                war.come(0, 5, 5, 9, 5);
                war.order(0, Check.GO, direction, 3);
                war.pass(1);
                Check.due("go to earth is missed", war.team(0, 6), 1);
                Check.due("and dropped with all its times", war.team(0, 5), 0);
                Check.duePlace("go to earth", war, 0, 5, 5);
                Check.due("tunnels", war.count(4), 1);
                war.order(0, Check.DIG, direction, 1);
                war.pass(1);
                Check.due("dig to earth is not missed", war.team(0, 6), 1);
                Check.duePlace("dig to earth", war, 0, 5 + RIGHTWARDS[direction], 5 + DOWNWARDS[direction]);
                Check.due("tunnels", war.count(4), 2);
            }
        }
    }

    // "(outside, rock, ..)"
    private static void againstRock() {
        for (int direction = 0; direction < 4; direction++) {
            SapperWar war = Check.war("###", "#.#", "###");
            war.come(0, 1, 1, 9, 5);
            war.order(0, Check.GO, direction, 20);
            war.order(0, Check.DIG, direction, 20);
            war.order(0, Check.WAIT, direction, 20);
            war.pass(1);
            Check.due("missed", war.team(0, 6), 1);
            Check.due("noise", war.team(0, 7), 1);
            war.pass(1);
            Check.due("missed", war.team(0, 6), 2);
            Check.due("noise", war.team(0, 7), 3);
            Check.duePlace("against rock", war, 0, 1, 1);
            Check.due("orders", war.team(0, 5), 1);
            int x = 1 + RIGHTWARDS[direction];
            int y = 1 + DOWNWARDS[direction];
            Check.dueCell("rock", war, x, y, 0, -1, 0, 0, 0, 0, 0, 0);
        }
    }

    // "there is as much more work done on it as it has skill, and with 3 times its hardness or more it is a tunnel"
    private static void threeTimesTheHardness() {
        for (int hardness = 1; hardness <= 9; hardness++) {
            for (int skill = 1; skill <= 5; skill++) {
                String what = "hardness " + hardness + ", skill " + skill;
                SapperWar war = Check.war("9" + hardness);
                war.openAt(0, 0);
                war.come(0, 0, 0, 9, skill);
                war.order(0, Check.DIG, Check.RIGHT, 2);
                for (int work = skill; work < 3 * hardness; work += skill) {
                    war.pass(1);
                    Check.dueCell(what, war, 1, 0, hardness, -1, 0, 0, 0, 0, work, 0);
                    Check.duePlace(what, war, 0, 0, 0);
                    Check.due(what + ", times", war.team(0, 9), 2);
                }
                war.pass(1);
                Check.dueCell(what, war, 1, 0, hardness, -1, 1, 0, hardness >= 7 ? 0 : 1, 0, 0, 0);
                Check.duePlace(what, war, 0, 1, 0);
                Check.due(what + ", times", war.team(0, 9), 1);
                Check.due(what + ", missed", war.team(0, 6), 0);
            }
        }
    }

    // The work of one team stays for the next one; who comes too late goes there.
    private static void workOfSeveral() {
        SapperWar war = Check.war("9.3.");
        war.openAt(0, 0);
        war.come(0, 1, 0, 9, 4);
        war.come(0, 3, 0, 9, 4);
        war.come(0, 3, 0, 9, 1);
        war.order(0, Check.DIG, Check.RIGHT, 1);
        war.order(1, Check.DIG, Check.LEFT, 1);
        war.order(2, Check.DIG, Check.LEFT, 1);
        war.pass(1);
        Check.due("4, 4 and 1 are 9", war.cell(2, 0, 2), 1);
        Check.duePlace("the last one did it", war, 2, 2, 0);
        Check.duePlace("not the first", war, 0, 1, 0);
        Check.duePlace("not the second", war, 1, 3, 0);
        war.pass(1);
        Check.duePlace("who goes there now", war, 0, 2, 0);
        Check.duePlace("who goes there now", war, 1, 2, 0);
        Check.due("no orders are left", war.team(0, 5) + war.team(1, 5) + war.team(2, 5), 0);
    }

    // "its cell has a prop more, if it has less than 3" "a prop with 3 props, is missed"
    private static void fewerThanThreeProps() {
        for (int teams = 1; teams <= 8; teams++) {
            SapperWar war = Check.war("9");
            war.openAt(0, 0);
            for (int t = 0; t < teams; t++) {
                war.come(1, 0, 0, 9, 1);
                war.order(t, Check.PROP, 0, 1);
            }
            war.pass(1);
            Check.due("props of " + teams + " teams", war.cell(0, 0, 3), Math.min(3, teams));
            Check.due("missed", war.count(9), Math.max(0, teams - 3));
            for (int t = 0; t < teams; t++) {
                Check.due("missed by " + t, war.team(t, 6), t >= 3 ? 1 : 0);
                Check.due("orders of " + t, war.team(t, 5), 0);
                Check.due("noise of " + t, war.team(t, 7), 2);
            }
        }
    }

    // "is missed, and the order is dropped. Otherwise the order has one time less .., and is dropped without any left."
    private static void droppedWhenMissed() {
        SapperWar war = Check.war("9");
        war.openAt(0, 0);
        war.come(0, 0, 0, 9, 1);
        int[] kinds = {Check.GO, Check.DIG, Check.PROP, Check.GO};
        for (int kind : kinds) {
            war.order(0, kind, Check.LEFT, 20);
        }
        int[] orders = {3, 2, 2, 2, 2, 1, 0};
        int[] times = {20, 20, 19, 18, 17, 20, 0};
        int[] missed = {1, 2, 2, 2, 2, 3, 4};
        for (int hour = 0; hour < 7; hour++) {
            war.pass(1);
            Check.due("orders, hour " + hour, war.team(0, 5), orders[hour]);
            Check.due("times, hour " + hour, war.team(0, 9), times[hour]);
            Check.due("missed, hour " + hour, war.team(0, 6), missed[hour]);
        }
    }

    // "its cell, and all tunnels to which a way of at most 2 steps leads from it, have .. 4 hours to burn"
    private static void atMostTwoSteps() {
        for (int from = 0; from < 144; from++) {
            SapperWar war = allOf('.');
            war.come(0, from % 12, from / 12, 9, 1);
            war.order(0, Check.FIRE, 0, 1);
            war.pass(1);
            for (int cell = 0; cell < 144; cell++) {
                int steps = distance(from % 12, from / 12, cell % 12, cell / 12);
                Check.due("fire in " + from + ", hours to burn of " + cell, war.cell(cell % 12, cell / 12, 7),
                        steps <= 2 ? 3 : 0);
            }
        }
    }

    private static void notAcrossEarth() {
        SapperWar war = Check.war(".....", ".a#3.", ".#.#.", ".3#..", ".....");
        war.come(0, 2, 2, 9, 1);
        war.order(0, Check.FIRE, 0, 1);
        war.pass(1);
        int burning = 0;
        for (int cell = 0; cell < 60; cell++) {
            burning += war.cell(cell % 12, cell / 12, 7) > 0 ? 1 : 0;
        }
        Check.due("it burns alone", burning, 1);
        SapperWar corner = Check.war("...", "#.#", "##.");
        corner.come(0, 0, 0, 9, 1);
        corner.order(0, Check.FIRE, 0, 1);
        corner.pass(1);
        Check.due("two steps round a corner", corner.cell(1, 1, 7), 3);
        Check.due("two steps", corner.cell(2, 0, 7), 3);
        Check.due("no way", corner.cell(2, 2, 7), 0);
        Check.due("rock", corner.cell(0, 1, 7), 0);
    }

    // "4 hours to burn, if they do not burn yet" "With hours to burn it has 1 less of them, and falls in, if none is left."
    private static void burningOnce() {
        for (int times = 1; times <= 4; times++) {
            SapperWar war = Check.war("9");
            war.openAt(0, 0);
            war.come(0, 0, 0, 9, 1);
            war.order(0, Check.FIRE, 0, times);
            for (int left = 3; left >= 1; left--) {
                war.pass(1);
                Check.dueCell(times + " fires, " + left + " left", war, 0, 0, 9, -1, 1, 0, 0, 0, 0, left);
            }
            war.pass(1);
            Check.dueCell(times + " fires", war, 0, 0, 2, -1, 0, 0, 0, 0, 0, 0);
            Check.dueHealth(times + " fires", war, 0);
            war.openAt(0, 0);
            war.pass(8);
            Check.dueCell("it burns no more", war, 0, 0, 2, -1, 1, 0, 8, 0, 0, 0);
        }
    }

    // "as much less of health (at least 0) as there are teams of the other side that fight .., at most 3"
    private static void atMostThreeLess() {
        for (int enemies = 1; enemies <= 7; enemies++) {
            for (int health = 1; health <= 9; health++) {
                SapperWar war = Check.war("9");
                war.openAt(0, 0);
                war.come(1, 0, 0, health, 1);
                for (int i = 0; i < enemies; i++) {
                    war.come(0, 0, 0, 9, 1);
                }
                war.pass(1);
                int left = Math.max(0, health - Math.min(3, enemies));
                Check.due(enemies + " enemies, health " + health, war.team(0, 3), left);
                Check.due("not gone", war.count(3), left > 0 ? 1 : 0);
                Check.due("the last enemy", war.team(enemies, 3), 8);
            }
        }
        SapperWar four = Check.war("99");
        four.openAt(0, 0);
        four.openAt(1, 0);
        for (int t = 0; t < 8; t++) {
            four.come(t % 2, t / 4, 0, 3 + t % 2, 1);
        }
        four.pass(1);
        Check.dueHealth("four against four", four, 0, 1, 0, 1, 0, 1, 0, 1);
    }

    // "teams of the other side that fight in its cell or a neighbour of it"
    private static void thoseThatFight() {
        // The first one comes near only in its turn, and does not fight: so nobody fights with the second one.
        SapperWar war = Check.war(".....");
        war.come(0, 0, 0, 9, 1);
        war.come(1, 2, 0, 9, 1);
        war.order(0, Check.GO, Check.RIGHT, 1);
        war.pass(1);
        Check.due("went", war.team(0, 7), 1);
        Check.due("fights", war.team(1, 7), 6);
        Check.dueHealth("nobody fights with it", war, 9, 9);

        // A fight two cells away is none of its own.
        SapperWar row = Check.war("....");
        row.come(0, 0, 0, 9, 1);
        row.come(1, 1, 0, 9, 1);
        row.come(0, 2, 0, 9, 1);
        row.come(1, 3, 0, 9, 1);
        row.pass(1);
        Check.dueHealth("a row", row, 8, 7, 7, 8);
    }

    private static final int[] KINDS = {Check.GO, Check.SMOKE, Check.PROP, Check.DIG, Check.FIRE};
    private static final int[] NOISES = {1, 1, 2, 3, 4};

    // "with 2 * its noise and 3, less its distance .. but only if this is more than 0"
    private static void howLoud() {
        for (int steps = 2; steps <= 22; steps++) {
            int x = Math.min(11, steps);
            int y = steps - x;
            for (int i = 0; i < KINDS.length; i++) {
                SapperWar war = new SapperWar();
                war.openAt(0, 0);
                war.openAt(x, y);
                war.come(0, 0, 0, 9, 1);
                war.come(1, x, y, 9, 1);
                war.order(0, Check.LISTEN, 0, 1);
                war.order(1, KINDS[i], Check.LEFT, 1);
                war.pass(1);
                dueLoud("kind " + KINDS[i] + ", distance " + steps, war, 2 * NOISES[i] + 3 - steps);
            }
            SapperWar fight = new SapperWar();
            fight.openAt(0, 0);
            fight.openAt(x, y);
            fight.come(0, 0, 0, 9, 1);
            fight.come(1, x, y, 9, 1);
            fight.come(0, x, y, 9, 1);
            fight.order(0, Check.LISTEN, 0, 1);
            fight.pass(1);
            dueLoud("a fight, distance " + steps, fight, 15 - steps);
        }
    }

    private static void dueLoud(String what, SapperWar war, int loud) {
        Check.due(what + ", how loud", war.heard(0, 2), loud > 0 ? loud : -1);
        Check.due(what + ", the hour", war.heard(0, 0), loud > 0 ? 0 : -1);
    }

    // "(up or down, if the difference of y is at least that of x, otherwise right or left ..)"
    private static void whichDirection() {
        for (int cell = 0; cell < 144; cell++) {
            int right = cell % 12 - 5;
            int down = cell / 12 - 5;
            int steps = Math.abs(right) + Math.abs(down);
            if (steps < 2 || steps > 10) {
                continue;
            }
            SapperWar war = new SapperWar();
            war.openAt(5, 5);
            war.openAt(cell % 12, cell / 12);
            war.come(1, cell % 12, cell / 12, 9, 1);
            war.come(0, 5, 5, 9, 1);
            war.order(0, Check.FIRE, 0, 1);
            war.order(1, Check.LISTEN, 0, 1);
            war.pass(1);
            int due = down * down >= right * right ? (down < 0 ? Check.UP : Check.DOWN)
                    : (right > 0 ? Check.RIGHT : Check.LEFT);
            Check.due("the direction of " + cell, war.heard(1, 1), due);
            Check.due("how loud from " + cell, war.heard(1, 2), 11 - steps);
        }
    }

    // "of several as loud the one with the smallest number"
    private static void asLoud() {
        for (int first = 0; first < 4; first++) {
            for (int second = 0; second < 4; second++) {
                SapperWar war = new SapperWar();
                war.openAt(5, 5);
                war.come(0, 5, 5, 9, 1);
                war.order(0, Check.LISTEN, 0, 1);
                for (int direction = 0; direction < 4; direction++) {
                    war.openAt(5 + 3 * RIGHTWARDS[direction], 5 + 3 * DOWNWARDS[direction]);
                }
                int[] directions = {first, second};
                for (int t = 1; t <= 2; t++) {
                    war.come(1, 5 + 3 * RIGHTWARDS[directions[t - 1]], 5 + 3 * DOWNWARDS[directions[t - 1]], 9, 1);
                    war.order(t, Check.PROP, 0, 1);
                }
                war.pass(1);
                Check.due(first + " and " + second + " as loud", war.heard(0, 1), first);
                Check.due("how loud", war.heard(0, 2), 4);
            }
        }
        // One louder by 1 is heard, whatever its number is.
        SapperWar war = Check.war("......", "3", "3", "3", ".");
        war.come(0, 0, 0, 9, 1);
        war.come(1, 5, 0, 9, 1);
        war.come(1, 0, 4, 9, 1);
        war.order(0, Check.LISTEN, 0, 1);
        war.order(1, Check.PROP, 0, 1);
        war.order(2, Check.PROP, 0, 1);
        war.pass(1);
        Check.due("3 before 2", war.heard(0, 1), Check.DOWN);
    }

    // "teams of the other side that made noise in this hour"
    private static void noNoiseAtAll() {
        for (int kind : new int[] {-1, Check.WAIT, Check.LISTEN}) {
            SapperWar war = Check.war("9.9");
            war.openAt(0, 0);
            war.openAt(2, 0);
            war.come(0, 0, 0, 9, 1);
            war.come(1, 2, 0, 9, 1);
            war.come(0, 0, 0, 9, 1);
            war.order(0, Check.LISTEN, 0, 1);
            war.order(2, Check.PROP, 0, 1);
            if (kind >= 0) {
                war.order(1, kind, 0, 1);
            }
            war.pass(1);
            Check.due("two cells away, without noise", war.heard(0, 0), -1);
        }
    }

    // "(also if they are gone now)"
    private static void alsoIfTheyAreGone() {
        SapperWar war = Check.war("9....");
        war.openAt(0, 0);
        war.come(0, 0, 0, 9, 1);
        war.come(1, 4, 0, 1, 1);
        war.come(0, 4, 0, 9, 1);
        war.order(0, Check.LISTEN, 0, 3);
        war.pass(1);
        Check.dueHealth("gone in the fight", war, 9, 0, 8);
        dueLoud("gone in the fight", war, 15 - 4);
        war.pass(1);
        Check.due("in the hour behind it nothing is heard", war.heard(0, 0), 0);

        SapperWar choked = Check.war("93339");
        choked.openAt(0, 0);
        choked.openAt(4, 0);
        choked.come(0, 0, 0, 9, 1);
        choked.come(1, 4, 0, 1, 1);
        choked.order(0, Check.WAIT, 0, 1);
        choked.order(0, Check.LISTEN, 0, 2);
        choked.order(1, Check.SMOKE, 0, 1);
        choked.pass(2);
        Check.dueHealth("gone in its own smoke", choked, 9, 0);
        Check.due("gone in its own smoke, the hour", choked.heard(0, 0), 1);
        Check.due("gone in its own smoke, how loud", choked.heard(0, 2), 1);
        choked.pass(1);
        Check.due("in the hour behind it nothing is heard", choked.heard(0, 0), 1);
    }

    // "It remembers .., in the place of what it remembered."
    private static void inThePlaceOfWhatItRemembered() {
        SapperWar war = Check.war("9.....", "#", "#", "#", ".");
        war.openAt(0, 0);
        war.come(0, 0, 0, 9, 1);
        war.come(1, 3, 0, 9, 1);
        war.come(1, 0, 4, 9, 1);
        war.order(0, Check.LISTEN, 0, 4);
        int[][] kinds = {{Check.FIRE, Check.WAIT}, {Check.WAIT, Check.GO}, {Check.WAIT, Check.WAIT},
            {Check.PROP, Check.WAIT}};
        int[][] due = {{0, Check.RIGHT, 8}, {1, Check.DOWN, 1}, {1, Check.DOWN, 1}, {3, Check.RIGHT, 4}};
        for (int hour = 0; hour < 4; hour++) {
            war.order(1, kinds[hour][0], 0, 1);
            war.order(2, kinds[hour][1], Check.UP, 1);
            war.pass(1);
            for (int what = 0; what < 3; what++) {
                Check.due("hour " + hour + ", heard(0, " + what + ")", war.heard(0, what), due[hour][what]);
            }
        }
    }

    // "what it and its neighbours that are tunnels have, added, / how many these are, less 1"
    private static void howManyTheseAre() {
        int[] centres = {8, 3, 2, 1, 0};
        for (int neighbours = 0; neighbours < 16; neighbours++) {
            SapperWar war = new SapperWar();
            war.openAt(5, 5);
            war.come(0, 5, 5, 9, 1);
            war.order(0, Check.SMOKE, 0, 1);
            for (int direction = 0; direction < 4; direction++) {
                if ((neighbours >> direction & 1) == 1) {
                    war.openAt(5 + RIGHTWARDS[direction], 5 + DOWNWARDS[direction]);
                }
            }
            war.pass(1);
            int count = Integer.bitCount(neighbours);
            Check.due("neighbours " + neighbours, war.cell(5, 5, 5), centres[count]);
            for (int direction = 0; direction < 4; direction++) {
                int due = (neighbours >> direction & 1) == 1 ? 3 : 0;
                Check.due("neighbours " + neighbours + ", " + direction,
                        war.cell(5 + RIGHTWARDS[direction], 5 + DOWNWARDS[direction], 5), due);
            }
            Check.due("all smoke", war.count(7), centres[count] + 3 * count);
        }
        int[][] edges = {{0, 0, 2}, {5, 0, 3}, {11, 0, 2}, {0, 5, 3}, {11, 5, 3}, {0, 11, 2}, {5, 11, 3}, {11, 11, 2}, {5, 5, 4}};
        for (int[] edge : edges) {
            SapperWar war = allOf('.');
            war.come(0, edge[0], edge[1], 9, 1);
            war.order(0, Check.SMOKE, 0, 1);
            war.pass(1);
            Check.due("at " + edge[0] + " " + edge[1], war.cell(edge[0], edge[1], 5), 9 / (edge[2] + 1) - 1);
        }
    }

    // "less 1 (at least 0)"
    private static void smokeIsAtLeastNone() {
        SapperWar war = Check.war("9");
        war.openAt(0, 0);
        war.come(0, 0, 0, 9, 1);
        war.order(0, Check.SMOKE, 0, 1);
        for (int hour = 1; hour <= 12; hour++) {
            war.pass(1);
            Check.due("smoke behind " + hour, war.cell(0, 0, 5), Math.max(0, 9 - hour));
            Check.due("all smoke behind " + hour, war.count(7), Math.max(0, 9 - hour));
        }
        SapperWar open = allOf('.');
        open.come(0, 5, 5, 9, 1);
        open.order(0, Check.SMOKE, 0, 1);
        open.pass(1);
        Check.due("9 / 5 is 1, less 1", open.cell(5, 5, 5), 0);
        Check.due("its neighbours have the same", open.count(7), 0);
    }

    // "Smoke, all by what was before"
    private static void byWhatWasBefore() {
        SapperWar war = Check.war("......");
        war.come(0, 0, 0, 9, 1);
        war.order(0, Check.SMOKE, 0, 1);
        int[][] smoke = {{3, 2, 0, 0, 0, 0}, {1, 0, 0, 0, 0, 0}, {0, 0, 0, 0, 0, 0}};
        for (int hour = 0; hour < smoke.length; hour++) {
            war.pass(1);
            for (int x = 0; x < 6; x++) {
                Check.due("to the right, hour " + hour + ", x " + x, war.cell(x, 0, 5), smoke[hour][x]);
            }
        }
        SapperWar left = Check.war("......");
        left.come(0, 5, 0, 9, 1);
        left.order(0, Check.SMOKE, 0, 1);
        for (int hour = 0; hour < smoke.length; hour++) {
            left.pass(1);
            for (int x = 0; x < 6; x++) {
                Check.due("to the left, hour " + hour + ", x " + x, left.cell(x, 0, 5), smoke[hour][5 - x]);
            }
        }
    }

    private static int needed(int hardness) {
        int[] needed = {2, 2, 2, 1, 1, 1, 0, 0, 0};
        return needed[hardness - 1];
    }

    /** A tunnel of this hardness with so many props, the last put up in the hour 'props' - 1. */
    private static SapperWar propped(int hardness, int props) {
        SapperWar war = Check.war(String.valueOf(hardness));
        war.openAt(0, 0);
        war.come(0, 0, 0, 9, 1);
        if (props > 0) {
            war.order(0, Check.PROP, 0, props);
        }
        return war;
    }

    // "a tunnel needs no prop with a hardness of 7 and more, 1 with 4 to 6, 2 with 1 to 3"
    // "Without any its age is 0, if it has as many props as it needs, otherwise 1 more"
    private static void propsThatAreNeeded() {
        for (int hardness = 1; hardness <= 9; hardness++) {
            for (int props = 0; props <= 3; props++) {
                SapperWar war = propped(hardness, props);
                boolean stands = props >= needed(hardness);
                for (int hour = 1; hour <= 4; hour++) {
                    war.pass(1);
                    boolean enough = Math.min(hour, props) >= needed(hardness);
                    Check.due("hardness " + hardness + ", props " + props + ", hour " + hour, war.cell(0, 0, 4),
                            enough ? 0 : hour);
                }
                Check.due("hardness " + hardness + ", props " + props + ", it falls in", war.falls(0, 0),
                        stands ? -1 : 4 * hardness + 1 - 4);
                war.pass(196);
                Check.due("hardness " + hardness + ", props " + props + ", 200 hours", war.cell(0, 0, 2),
                        stands ? 1 : 0);
            }
        }
    }

    // "with an age of more than 4 times its hardness it falls in"
    private static void moreThanFourTimesItsHardness() {
        for (int hardness = 1; hardness <= 6; hardness++) {
            for (int props = 0; props < needed(hardness); props++) {
                String what = "hardness " + hardness + ", props " + props;
                SapperWar war = propped(hardness, props);
                war.pass(4 * hardness);
                Check.dueCell(what, war, 0, 0, hardness, -1, 1, props, 4 * hardness, 0, 0, 0);
                Check.dueHealth(what, war, 9);
                Check.due(what + ", fell in", war.count(8), 0);
                war.pass(1);
                Check.dueCell(what, war, 0, 0, 2, -1, 0, 0, 0, 0, 0, 0);
                Check.dueHealth(what, war, 0);
                Check.due(what + ", fell in", war.count(8), 1);
                war.pass(50);
                Check.due(what + ", once", war.count(8), 1);
            }
        }
    }

    private static void propsInTheLastHour() {
        for (int hardness = 1; hardness <= 6; hardness++) {
            for (int late = 0; late <= 1; late++) {
                SapperWar war = Check.war(String.valueOf(hardness));
                war.openAt(0, 0);
                war.pass(4 * hardness + late - 1);
                war.come(0, 0, 0, 9, 1);
                war.come(0, 0, 0, 9, 1);
                war.come(0, 0, 0, 9, 1);
                war.pass(1);
                for (int t = 0; t < needed(hardness) && late == 0; t++) {
                    war.order(t, Check.PROP, 0, 1);
                }
                war.pass(1);
                Check.due("hardness " + hardness + ", propped " + late + " hours too late", war.cell(0, 0, 2), 1 - late);
                Check.due("its age", war.cell(0, 0, 4), 0);
                Check.dueHealth("teams there", war, late == 0 ? 9 : 0, late == 0 ? 9 : 0, late == 0 ? 9 : 0);
            }
        }
    }

    // "Without any its age is ..": with hours to burn no age is counted.
    private static void fireInTheLastHour() {
        SapperWar war = Check.war("1");
        war.openAt(0, 0);
        war.come(0, 0, 0, 9, 1);
        war.order(0, Check.WAIT, 0, 4);
        war.order(0, Check.FIRE, 0, 1);
        war.pass(4);
        Check.dueCell("the last hour", war, 0, 0, 1, -1, 1, 0, 4, 0, 0, 0);
        for (int left = 3; left >= 1; left--) {
            war.pass(1);
            Check.dueCell("it burns", war, 0, 0, 1, -1, 1, 0, 4, 0, 0, left);
        }
        war.pass(1);
        Check.dueCell("burnt", war, 0, 0, 2, -1, 0, 0, 0, 0, 0, 0);
    }

    // "a wall above has 8 less": without one there is none.
    private static void withoutAWall() {
        SapperWar war = Check.war("1");
        for (int i = 0; i < 4; i++) {
            Check.due("no wall", war.cell(0, 0, 1), -1);
            war.openAt(0, 0);
            Check.due("no wall falls", war.pass(9), 0);
        }
        Check.due("no wall fell", war.count(6), 0);
        Check.dueDouble("no walls", war.share(), 0.0);
    }

    // "a wall above has 8 less of strength (at least 0)" "0 to 20: with 0 it has fallen"
    private static void atLeastNoStrength() {
        SapperWar war = Check.war("a");
        int[] strengths = {12, 4, 0, 0, 0};
        for (int i = 0; i < strengths.length; i++) {
            war.openAt(0, 0);
            Check.due("walls that fall", war.pass(9), i == 2 ? 1 : 0);
            Check.due("the strength", war.cell(0, 0, 1), strengths[i]);
            Check.due("walls that stand", war.count(5), strengths[i] > 0 ? 1 : 0);
            Check.due("walls that have fallen", war.count(6), strengths[i] > 0 ? 0 : 1);
            Check.due("tunnels that fell in", war.count(8), i + 1);
        }
    }

    private static SapperWar weakWalls() {
        SapperWar war = Check.war("aaa");
        for (int i = 0; i < 2; i++) {
            for (int x = 0; x < 3; x++) {
                war.openAt(x, 0);
            }
            war.pass(9);
        }
        return war;
    }

    // "Returns how many walls fall in them."
    private static void wallsThatFall() {
        SapperWar war = weakWalls();
        Check.due("walls that stand", war.count(5), 3);
        war.openAt(0, 0);
        war.pass(1);
        war.openAt(1, 0);
        war.openAt(2, 0);
        Check.due("none", war.pass(7), 0);
        Check.due("one", war.pass(1), 1);
        Check.due("two in one hour", war.pass(1), 2);
        Check.due("none is left", war.pass(200), 0);
        SapperWar together = weakWalls();
        together.openAt(0, 0);
        together.pass(1);
        together.openAt(1, 0);
        together.openAt(2, 0);
        Check.due("three in 200 hours", together.pass(200), 3);
    }

    // "The hour is 1 greater."
    private static void oneHourGreater() {
        SapperWar war = new SapperWar();
        int hours = 0;
        for (int i = 1; i <= 200; i++) {
            war.pass(i % 2 == 0 ? 200 : 1);
            hours += i % 2 == 0 ? 200 : 1;
            Check.due("the hour", war.count(0), hours);
        }
    }

    // "Throws IndexOutOfBoundsException if what is not 0 to 11"
    private static void countingNone() {
        SapperWar war = new SapperWar();
        for (int what = 0; what <= 11; what++) {
            Check.due("count(" + what + ")", war.count(what), 0);
        }
        for (int what : new int[] {-1, 12, Integer.MIN_VALUE, Integer.MAX_VALUE}) {
            Check.dueOutside("count(" + what + ")", Check::busy, w -> w.count(what));
        }
        SapperWar rock = allOf('#');
        for (int what = 0; what <= 11; what++) {
            Check.due("all rock, count(" + what + ")", rock.count(what), 0);
        }
    }

    private static void countingAll() {
        Check.due("all tunnels", allOf('.').count(4), 144);
        Check.due("all walls", allOf('i').count(5), 144);
        Check.due("none of them a tunnel", allOf('i').count(4), 0);
        SapperWar war = allOf('9');
        for (int t = 0; t < 8; t++) {
            war.openAt(t, t);
            war.come(t % 2, t, t, 1, 1);
            war.order(t, Check.SMOKE, 0, 1);
        }
        Check.due("8 teams", war.count(1), 8);
        Check.due("of the side 0", war.count(2), 4);
        Check.due("of the side 1", war.count(3), 4);
        war.pass(1);
        Check.due("all smoke", war.count(7), 64);
        war.pass(1);
        Check.due("gone teams are teams", war.count(1), 8);
        Check.due("of the side 0", war.count(2), 0);
        Check.due("of the side 1", war.count(3), 0);
        Check.due("all smoke", war.count(7), 56);

        SapperWar missed = allOf('#');
        Check.tape(missed, (".###########\n").repeat(12));
        missed.map();
        for (int t = 0; t < 8; t++) {
            missed.come(0, 0, t, 9, 1);
            for (int i = 0; i < 12; i++) {
                missed.order(t, Check.DIG, Check.LEFT, 20);
            }
        }
        missed.pass(12);
        Check.due("orders that were missed", missed.count(9), 96);
        Check.due("all tunnels age", missed.cell(0, 11, 4), 12);
        missed.pass(1);
        Check.due("tunnels that fell in", missed.count(8), 12);
        Check.due("missed by gone teams too", missed.count(9), 96);
    }

    // "8 tunnels that fell in in all, 9 orders that the teams missed (those that there are)"
    private static void inAll() {
        SapperWar war = Check.war("11", "a");
        war.openAt(0, 0);
        war.openAt(1, 0);
        war.come(0, 0, 0, 9, 1);
        war.order(0, Check.GO, Check.UP, 1);
        war.pass(5);
        Check.due("fell in", war.count(8), 2);
        Check.due("missed", war.count(9), 1);
        Check.tape(war, "1" + (Check.PLAIN + "\n").repeat(12).substring(1));
        Check.due("map", war.map(), -1);
        Check.due("fell in in all", war.count(8), 2);
        Check.due("missed by those that there are", war.count(9), 0);
        war.openAt(0, 0);
        war.pass(5);
        Check.due("fell in in all", war.count(8), 3);
        war.openAt(0, 0);
        war.pass(9);
        Check.due("the same one once more", war.count(8), 4);
    }
}
