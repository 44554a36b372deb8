/** Promises 1 to 6: a new object, feed, trim, map, openAt, cell. */
public final class MapTest {
    private MapTest() {
    }

    public static void main(String[] args) {
        newObject();
        feeding();
        trimming();
        readingMaps();
        mapsInThePlaceOfMaps();
        errorsOfMaps();
        mapTakesTeamsAway();
        opening();
        cells();
        Check.end();
    }

    private static void newObject() {
        SapperWar war = new SapperWar();
        int[] counts = {0, 0, 0, 0, 0, 0, 0, 0, 0, 0, 0, 0};
        for (int what = 0; what < 12; what++) {
            Check.due("new, count(" + what + ")", war.count(what), counts[what]);
        }
        for (int y = 0; y < 12; y++) {
            SapperWar row = new SapperWar();
            for (int x = 0; x < 12; x++) {
                Check.dueCell("new", row, x, y, 3, -1, 0, 0, 0, 0, 0, 0);
            }
        }
        Check.dueDouble("new, share", war.share(), 0.0);
    }

    private static void feeding() {
        SapperWar war = new SapperWar();
        for (int i = 1; i <= 10; i++) {
            Check.due("feed " + i, war.feed(-1, 0, 1, i, Integer.MIN_VALUE), 20 * i);
        }
        Check.due("bytes of the full tape", war.count(10), 200);
        Check.dueBadState("feed to the full tape", war, () -> war.feed(0, 0, 0, 0, 0));
        war.trim(181);
        Check.dueBadState("feed to 201 bytes", war, () -> war.feed(0, 0, 0, 0, 0));
        war.trim(180);
        Check.due("feed to 200 bytes", war.feed(0, 0, 0, 0, 0), 200);

        SapperWar order = new SapperWar();
        order.feed(0x31323334, 0x35363738, 0x39616263, 0x0a313131, 0);
        order.trim(14);
        Check.due("highest byte first: 12 cells, a line end, a cell, and an early end", order.map(), 14);
        order.feed(0x31323334, 0x35363738, 0x39616263, 0x0a313131, 0);
        Check.due("the sixteen bytes of a to d, then a zero byte", order.map(), 16);
    }

    private static void trimming() {
        SapperWar war = new SapperWar();
        Check.due("trim(0) of the empty tape", war.trim(0), 0);
        Check.dueBadArgument("trim(1) of the empty tape", war, () -> war.trim(1));
        war.feed(0, 0, 0, 0, 0);
        Check.dueBadArgument("trim(-1)", war, () -> war.trim(-1));
        Check.dueBadArgument("trim(21) of 20", war, () -> war.trim(21));
        Check.due("trim(20) of 20", war.trim(20), 20);
        Check.due("trim(7) of 20", war.trim(7), 7);
        Check.due("bytes behind trim(7)", war.count(10), 7);
        Check.dueBadArgument("trim(8) of 7", war, () -> war.trim(8));
    }

    private static void readingMaps() {
        SapperWar war = Check.war("123456789#.3", "abcdefghi333");
        Check.due("the tape is empty behind a map", war.count(10), 0);
        for (int x = 0; x < 9; x++) {
            Check.dueCell("earth", war, x, 0, x + 1, -1, 0, 0, 0, 0, 0, 0);
            Check.dueCell("earth under a wall", war, x, 1, x + 1, 20, 0, 0, 0, 0, 0, 0);
        }
        Check.dueCell("rock", war, 9, 0, 0, -1, 0, 0, 0, 0, 0, 0);
        Check.dueCell("tunnel", war, 10, 0, 3, -1, 1, 0, 0, 0, 0, 0);
        Check.due("tunnels of the map", war.count(4), 1);
        Check.due("walls of the map", war.count(5), 9);

        war.come(0, 10, 0, 9, 5);
        war.order(0, Check.SMOKE, 0, 1);
        war.order(0, Check.DIG, Check.DOWN, 1);
        war.pass(3);
        Check.due("work before the second map", war.cell(10, 1, 6) + war.cell(10, 0, 5), 6);
        StringBuilder second = new StringBuilder();
        for (int y = 0; y < 12; y++) {
            second.append(y == 11 ? "...........i\n" : "............\n");
        }
        Check.tape(war, second.toString());
        Check.due("the second map", war.map(), -1);
        Check.due("tunnels of the second map", war.count(4), 143);
        Check.due("walls of the second map", war.count(5), 1);
        Check.due("the hour stays", war.count(0), 3);
        Check.dueCell("the second map is in the place of all", war, 10, 0, 3, -1, 1, 0, 0, 0, 0, 0);
        Check.dueCell("the second map is in the place of all", war, 10, 1, 3, -1, 1, 0, 0, 0, 0, 0);
        Check.dueCell("the last cell", war, 11, 11, 9, 20, 0, 0, 0, 0, 0, 0);
    }

    private static void mapsInThePlaceOfMaps() {
        SapperWar war = Check.war("9.a..#", "3");
        war.come(0, 3, 0, 9, 4);
        war.come(0, 4, 0, 9, 4);
        war.order(0, Check.PROP, 0, 1);
        war.order(0, Check.SMOKE, 0, 1);
        war.order(0, Check.FIRE, 0, 1);
        war.order(1, Check.WAIT, 0, 1);
        war.order(1, Check.PROP, 0, 1);
        war.order(1, Check.DIG, Check.DOWN, 1);
        war.order(1, Check.PROP, 0, 1);
        war.pass(4);
        Check.due("burning", war.cell(3, 0, 7) > 0 ? 1 : 0, 1);
        Check.due("work", war.cell(4, 1, 6), 8);
        Check.tape(war, ".#5.3." + plainMap().substring(6));
        Check.due("map", war.map(), -1);
        Check.dueCell("a tunnel where earth was", war, 0, 0, 3, -1, 1, 0, 0, 0, 0, 0);
        Check.dueCell("rock where a tunnel was", war, 1, 0, 0, -1, 0, 0, 0, 0, 0, 0);
        Check.dueCell("earth where a wall was", war, 2, 0, 5, -1, 0, 0, 0, 0, 0, 0);
        Check.dueCell("a tunnel where it burnt", war, 3, 0, 3, -1, 1, 0, 0, 0, 0, 0);
        Check.dueCell("earth where a tunnel was", war, 4, 0, 3, -1, 0, 0, 0, 0, 0, 0);
        Check.dueCell("a tunnel where rock was", war, 5, 0, 3, -1, 1, 0, 0, 0, 0, 0);
        Check.dueCell("no work any more", war, 4, 1, 3, -1, 0, 0, 0, 0, 0, 0);
        Check.due("no smoke any more", war.count(7), 0);
    }

    private static String plainMap() {
        return "333333333333\n".repeat(12);
    }

    private static void dueError(String what, String text, int place) {
        SapperWar war = new SapperWar();
        war.openAt(2, 3);
        war.come(1, 2, 3, 9, 5);
        war.order(0, Check.DIG, Check.UP, 2);
        Check.tape(war, text);
        SapperWar same = new SapperWar();
        same.openAt(2, 3);
        same.come(1, 2, 3, 9, 5);
        same.order(0, Check.DIG, Check.UP, 2);
        Check.due(what, war.map(), place);
        Check.due(what + ", the tape behind it", war.count(10), 0);
        Check.due(what + ", all else stays", war.digest(), same.digest());
    }

    private static void errorsOfMaps() {
        String map = plainMap();
        dueError("the empty tape", "", 0);
        dueError("a tape that ends early", map.substring(0, 155), 155);
        dueError("a tape that ends behind a line", map.substring(0, 13), 13);
        dueError("a byte too much", map + "3", 156);
        dueError("a line end too much", map + "\n", 156);
        dueError("an error in the first cell", "0" + map.substring(1), 0);
        dueError("a line end in the first cell", "\n", 0);
        dueError("the first of two errors", "3x3x", 1);
        dueError("an error before an early end", "33j", 2);
        dueError("an error in the last cell", map.substring(0, 154) + "\n\n", 154);
        dueError("no line end at the end", map.substring(0, 155) + " ", 155);
        dueError("a line end too early", "33333333333\n", 11);
        dueError("a line end too late", "3333333333333\n", 12);
        for (char sign : new char[] {'0', ':', '`', 'j', 'A', '"', '$', '-', '/', ' ', 0, 13, 128, 163, 174, 177, 225, 255}) {
            dueError("the byte " + (int) sign, "3" + sign + map.substring(2), 1);
        }
        for (char sign : new char[] {'1', '9', 'a', 'i', '#', '.'}) {
            SapperWar war = new SapperWar();
            Check.tape(war, "3" + sign + map.substring(2));
            Check.due("the byte " + (int) sign, war.map(), -1);
        }
    }

    private static void mapTakesTeamsAway() {
        SapperWar war = Check.war(".3.");
        war.come(0, 0, 0, 9, 5);
        war.come(1, 2, 0, 9, 5);
        war.order(0, Check.GO, Check.UP, 1);
        war.order(0, Check.LISTEN, 0, 1);
        war.order(0, Check.PROP, 0, 9);
        war.order(1, Check.WAIT, 0, 1);
        war.order(1, Check.PROP, 0, 1);
        war.pass(3);
        Check.due("noise before the map", war.team(0, 7), 2);
        Check.due("missed before the map", war.count(9), 1);
        Check.due("heard before the map", war.heard(0, 2), 5);
        Check.due("orders before the map", war.team(0, 5), 1);
        Check.tape(war, plainMap());
        Check.due("map", war.map(), -1);
        Check.due("no teams", war.count(1), 0);
        Check.due("missed behind the map", war.count(9), 0);
        Check.dueOutside("no team 0", war, () -> war.team(0, 0));
        war.openAt(4, 4);
        Check.due("numbers from 0 again", war.come(1, 4, 4, 1, 1), 0);
        int[] fresh = {1, 4, 4, 1, 1, 0, 0, 0, -1, 0};
        for (int what = 0; what < 10; what++) {
            Check.due("the new team has nothing of the old one, " + what, war.team(0, what), fresh[what]);
        }
        for (int what = 0; what < 3; what++) {
            Check.due("the new team heard nothing, " + what, war.heard(0, what), -1);
        }
    }

    private static void opening() {
        SapperWar war = Check.war("#9.b");
        Check.dueOutside("x -1", war, () -> war.openAt(-1, 0));
        Check.dueOutside("x 12", war, () -> war.openAt(12, 0));
        Check.dueOutside("y -1", war, () -> war.openAt(0, -1));
        Check.dueOutside("y 12", war, () -> war.openAt(0, 12));
        Check.dueBadState("rock", war, () -> war.openAt(0, 0));
        Check.dueBadState("a tunnel", war, () -> war.openAt(2, 0));
        Check.due("earth", war.openAt(1, 0), 9);
        Check.dueCell("opened", war, 1, 0, 9, -1, 1, 0, 0, 0, 0, 0);
        Check.dueBadState("opened twice", war, () -> war.openAt(1, 0));
        Check.due("earth under a wall", war.openAt(3, 0), 2);
        Check.dueCell("opened under a wall", war, 3, 0, 2, 20, 1, 0, 0, 0, 0, 0);
        Check.due("the last cell", war.openAt(11, 11), 3);

        war.come(0, 2, 0, 9, 2);
        war.order(0, Check.DIG, Check.DOWN, 1);
        war.pass(1);
        Check.due("work", war.cell(2, 1, 6), 2);
        Check.due("worked earth", war.openAt(2, 1), 3);
        Check.due("no work in a tunnel", war.cell(2, 1, 6), 0);
    }

    private static void cells() {
        SapperWar war = new SapperWar();
        Check.dueOutside("x -1", war, () -> war.cell(-1, 0, 0));
        Check.dueOutside("x 12", war, () -> war.cell(12, 0, 0));
        Check.dueOutside("y -1", war, () -> war.cell(0, -1, 0));
        Check.dueOutside("y 12", war, () -> war.cell(0, 12, 0));
        Check.dueOutside("what -1", war, () -> war.cell(0, 0, -1));
        Check.dueOutside("what 8", war, () -> war.cell(0, 0, 8));
        Check.dueOutside("far outside", war, () -> war.cell(Integer.MIN_VALUE, Integer.MAX_VALUE, 0));
        war.openAt(3, 7);
        war.come(0, 3, 7, 9, 4);
        war.order(0, Check.PROP, 0, 1);
        war.order(0, Check.SMOKE, 0, 1);
        war.order(0, Check.FIRE, 0, 1);
        war.pass(2);
        Check.dueCell("a prop and smoke", war, 3, 7, 3, -1, 1, 1, 2, 8, 0, 0);
    }
}
