/** Promises 14 to 16: way, reach, target. */
public final class WayTest {
    private WayTest() {
    }

    public static void main(String[] args) {
        ways();
        longWay();
        reaching();
        reachingByHand();
        reachingOfGoneTeams();
        targets();
        Check.end();
    }

    private static void ways() {
        SapperWar war = Check.war("...3.", "3#.3.", "..33.", ".");
        Check.dueOutside("x -1", war, () -> war.way(-1, 0, 0, 0));
        Check.dueOutside("x 12", war, () -> war.way(12, 0, 0, 0));
        Check.dueOutside("y -1", war, () -> war.way(0, -1, 0, 0));
        Check.dueOutside("y 12", war, () -> war.way(0, 12, 0, 0));
        Check.dueOutside("toX -1", war, () -> war.way(0, 0, -1, 0));
        Check.dueOutside("toX 12", war, () -> war.way(0, 0, 12, 0));
        Check.dueOutside("toY -1", war, () -> war.way(0, 0, 0, -1));
        Check.dueOutside("toY 12", war, () -> war.way(0, 0, 0, 12));
        Check.due("to itself", war.way(0, 0, 0, 0), 0);
        Check.due("to a neighbour", war.way(0, 0, 1, 0), 1);
        Check.due("round a corner", war.way(0, 0, 2, 1), 3);
        Check.due("back", war.way(2, 1, 0, 0), 3);
        Check.due("no way", war.way(0, 0, 4, 0), -1);
        Check.due("no way over a corner", war.way(2, 1, 1, 2), -1);
        Check.due("down", war.way(1, 2, 0, 3), 2);
        Check.due("earth", war.way(0, 0, 3, 0), -1);
        Check.due("from earth", war.way(3, 0, 2, 0), -1);
        Check.due("earth to itself", war.way(3, 0, 3, 0), -1);
        Check.due("rock to itself", war.way(1, 1, 1, 1), -1);

        SapperWar edge = Check.war("3333333333..", ".");
        Check.due("not round the edge", edge.way(11, 0, 0, 1), -1);
        SapperWar all = Check.war("............", "............", "............", "............", "............",
                "............", "............", "............", "............", "............", "............",
                "............");
        for (int cell = 0; cell < 144; cell++) {
            Check.due("all open, to " + cell, all.way(4, 7, cell % 12, cell / 12),
                    Math.abs(cell % 12 - 4) + Math.abs(cell / 12 - 7));
        }
    }

    private static void longWay() {
        SapperWar war = Check.war("............", "###########.", "............", ".###########", "............",
                "###########.", "............", ".###########", "............", "###########.", "............",
                ".###########");
        Check.due("a snake", war.way(0, 0, 0, 11), 77);
        war.come(0, 0, 0, 1, 1);
        Check.due("a snake for a team", war.reach(0, 0, 11), 77);
    }

    private static void reaching() {
        SapperWar war = Check.war("..3#5", "#13#5", "9#3#5", "###35");
        Check.dueOutside("no team yet", war, () -> war.reach(0, 0, 0));
        war.come(0, 0, 0, 9, 2);
        Check.dueOutside("team 1", war, () -> war.reach(1, 0, 0));
        Check.dueOutside("team -1", war, () -> war.reach(-1, 0, 0));
        Check.dueOutside("x -1", war, () -> war.reach(0, -1, 0));
        Check.dueOutside("x 12", war, () -> war.reach(0, 12, 0));
        Check.dueOutside("y -1", war, () -> war.reach(0, 0, -1));
        Check.dueOutside("y 12", war, () -> war.reach(0, 0, 12));
        Check.due("its own cell", war.reach(0, 0, 0), 0);
        Check.due("a tunnel", war.reach(0, 1, 0), 1);
        Check.due("9 by 2", war.reach(0, 2, 0), 6);
        Check.due("3 by 2", war.reach(0, 1, 1), 3);
        Check.due("over the softer earth", war.reach(0, 2, 1), 8);
        Check.due("rock", war.reach(0, 0, 1), -1);
        Check.due("rock all around", war.reach(0, 0, 2), -1);
        Check.due("rock between", war.reach(0, 4, 0), -1);
        war.order(0, Check.GO, Check.RIGHT, 1);
        war.order(0, Check.DIG, Check.RIGHT, 1);
        war.pass(2);
        Check.due("from where it is", war.reach(0, 0, 0), 1);
        Check.due("7 left by 2", war.reach(0, 2, 0), 4);
        Check.due("8 left on the way", war.reach(0, 2, 1), 7);
        war.pass(1);
        Check.due("5 left by 2", war.reach(0, 2, 0), 3);
    }

    private static void reachingByHand() {
        SapperWar war = new SapperWar();
        war.openAt(3, 3);
        war.come(1, 3, 3, 9, 4);
        Check.due("9 by 4", war.reach(0, 4, 3), 3);
        Check.due("to the far corner", war.reach(0, 11, 11), 48);
        int before = war.reach(0, 5, 3);
        war.order(0, Check.DIG, Check.RIGHT, 2);
        war.pass(before);
        Check.duePlace("it takes as long as told", war, 0, 5, 3);
        Check.due("not told shorter", before, 6);

        SapperWar around = Check.war(".9.", "...");
        around.come(0, 0, 0, 9, 5);
        Check.due("the way around is shorter", around.reach(0, 2, 0), 4);
        Check.due("27 by 5", around.reach(0, 1, 0), 6);

        SapperWar corner = Check.war("..9......", ".##.#####", "....#####");
        corner.come(0, 1, 0, 9, 1);
        Check.due("a way over the cell 0", corner.reach(0, 8, 0), 13);
        Check.due("the same by tunnels", corner.way(1, 0, 8, 0), 13);

        for (int skill = 1; skill <= 5; skill++) {
            for (int hardness = 1; hardness <= 9; hardness++) {
                SapperWar other = Check.war("." + hardness);
                other.come(0, 0, 0, 9, skill);
                int hours = 0;
                for (int work = 0; work < 3 * hardness; work += skill) {
                    hours++;
                }
                Check.due("skill " + skill + ", hardness " + hardness, other.reach(0, 1, 0), hours);
            }
        }
    }

    private static void reachingOfGoneTeams() {
        SapperWar war = Check.war(".1");
        war.come(0, 0, 0, 9, 1);
        war.pass(13);
        Check.due("it is gone", war.team(0, 3), 0);
        Check.due("its own cell", war.reach(0, 0, 0), 0);
        Check.due("what it would need", war.reach(0, 1, 0), 3);
    }

    private static void targets() {
        SapperWar war = Check.war("33b", "333", "a.3", "333");
        Check.dueOutside("no team yet", war, () -> war.target(0));
        war.come(0, 1, 2, 9, 3);
        Check.dueOutside("team 1", war, () -> war.target(1));
        Check.dueOutside("team -1", war, () -> war.target(-1));
        Check.due("the nearest", war.target(0), 24);

        SapperWar several = Check.war("#a#", "a.a", "#a#");
        several.come(0, 1, 1, 9, 1);
        Check.due("of several the least", several.target(0), 1);

        SapperWar first = Check.war("a.3a", "", "3a");
        first.come(0, 1, 0, 9, 1);
        Check.due("the cell 0, with others farther away", first.target(0), 0);

        SapperWar none = Check.war("3.3");
        none.come(0, 1, 0, 9, 1);
        Check.due("no wall", none.target(0), -1);

        SapperWar rock = Check.war(".#a", "##");
        rock.come(0, 0, 0, 9, 1);
        Check.due("rock between", rock.target(0), -1);

        SapperWar own = Check.war("a3");
        own.openAt(0, 0);
        own.come(0, 0, 0, 9, 1);
        Check.due("its own cell", own.target(0), 0);

        SapperWar fallen = Check.war("33a9i", ".");
        for (int i = 0; i < 3; i++) {
            fallen.openAt(2, 0);
            fallen.pass(9);
        }
        Check.due("the near wall has fallen", fallen.cell(2, 0, 1), 0);
        fallen.openAt(0, 2);
        fallen.come(0, 0, 2, 9, 1);
        Check.due("a fallen wall is no target", fallen.target(0), 4);
    }
}
