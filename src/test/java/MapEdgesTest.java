/**
 * The sentences of the terms "Grid" and "Map" and of the promises 1 to 6 that name a boundary; each is quoted over
 * its test. What is refused is in RefusedTest with all mixtures of arguments, and here where a limit moves.
 */
public final class MapEdgesTest {
    private static final String SIGNS = "123456789abcdefghi#.";
    private static final String LINE = Check.PLAIN + "\n";
    private static final String MAP = LINE.repeat(12);

    private MapEdgesTest() {
    }

    public static void main(String[] args) {
        atFirst();
        emptyTape();
        fullTape();
        highestByteFirst();
        bytesAreNotNegative();
        shortening();
        cutOffBytesAreGone();
        aMapAndNothingElse();
        endingTooEarly();
        tooLong();
        eachByteOfACell();
        eachByteOfALineEnd();
        theFirstByteThatCannotBe();
        withAnErrorAllStays();
        theTapeIsEmptyBehindAMap();
        inThePlaceOfAllCells();
        whatAMapLeaves();
        allTeamsAreTakenAway();
        openingEachHardness();
        openingTheCorners();
        openingWhatIsNoEarth();
        withNothingInIt();
        openingWhatFellIn();
        cellsOfEachKind();
        neighboursAtTheEdge();
        calls();
        Check.end();
    }

    // "At first all is earth of the hardness 3, without walls." "(none, at first)" "(all 0, at first)"
    // "Creates a siege without teams, at the hour 0."
    private static void atFirst() {
        for (int y = 0; y < 12; y++) {
            SapperWar war = new SapperWar();
            for (int x = 0; x < 12; x++) {
                Check.dueCell("at first", war, x, y, 3, -1, 0, 0, 0, 0, 0, 0);
            }
        }
        SapperWar war = new SapperWar();
        for (int what = 0; what < 12; what++) {
            Check.due("at first, count(" + what + ")", war.count(what), 0);
        }
        Check.due("the first team that comes is 0", opened(war).come(0, 0, 0, 1, 1), 0);
    }

    private static SapperWar opened(SapperWar war) {
        war.openAt(0, 0);
        return war;
    }

    // "a row of at most 200 bytes, at first empty"
    private static void emptyTape() {
        SapperWar war = new SapperWar();
        Check.due("bytes of the new tape", war.count(10), 0);
        Check.due("trim(0)", war.trim(0), 0);
        Check.dueBadArgument("trim(1) of the new tape", SapperWar::new, w -> w.trim(1));
        Check.due("map of the new tape", war.map(), 0);
        Check.dueSame("a map of nothing", war, new SapperWar());
    }

    private static SapperWar fed(int bytes) {
        SapperWar war = Check.busy();
        war.feed(0x33333333, 0x33333333, 0x33333333, 0x33333333, 0x33333333);
        war.feed(0x33333333, 0x33333333, 0x33333333, 0x33333333, 0x33333333);
        war.trim(180);
        war.feed(0x33333333, 0x33333333, 0x33333333, 0x33333333, 0x33333333);
        war.trim(bytes);
        return war;
    }

    // "at most 200 bytes" "Throws IllegalStateException if there would be more than 200"
    private static void fullTape() {
        for (int bytes = 156; bytes <= 200; bytes++) {
            int had = bytes;
            if (bytes <= 180) {
                Check.due("feed behind " + bytes, fed(bytes).feed(1, 2, 3, 4, 5), bytes + 20);
            } else {
                Check.dueBadState("feed behind " + bytes, () -> fed(had), w -> w.feed(1, 2, 3, 4, 5));
            }
        }
        SapperWar war = new SapperWar();
        for (int i = 1; i <= 10; i++) {
            Check.due("feed", war.feed(0, 0, 0, 0, 0), 20 * i);
            Check.due("bytes of the tape", war.count(10), 20 * i);
        }
        Check.dueBadState("the eleventh feed", war, () -> war.feed(0, 0, 0, 0, 0));
        Check.due("200 are kept", war.trim(200), 200);
        Check.due("none is kept", war.trim(0), 0);
        Check.due("there is room again", war.feed(0, 0, 0, 0, 0), 20);
    }

    // "the four bytes of each number, the highest one first" "bytes 1 to 4" .. "bytes 17 to 20"
    private static void highestByteFirst() {
        SapperWar war = new SapperWar();
        war.feed(0x31323334, 0x35363738, 0x39616263, 0x0a646566, 0x6768692e);
        Check.due("20 bytes, and no error before they end", war.map(), 20);
        war.feed(0x31323334, 0x35363738, 0x39616263, 0x0a646566, 0x6768692e);
        append(war, MAP.substring(20));
        Check.due("a map", war.map(), -1);
        for (int x = 0; x < 12; x++) {
            Check.dueCell("byte " + (x + 1), war, x, 0, x < 9 ? x + 1 : x - 8, x < 9 ? -1 : 20);
        }
        for (int x = 0; x < 6; x++) {
            Check.dueCell("byte " + (x + 14), war, x, 1, x + 4, 20, 0);
        }
        Check.dueCell("byte 20", war, 6, 1, 3, -1, 1);
        Check.dueCell("byte 21", war, 7, 1, 3, -1, 0);
    }

    /** Feeds a text behind what is on the tape. */
    private static void append(SapperWar war, String text) {
        int length = war.count(10) + text.length();
        for (int from = 0; from < text.length(); from += 20) {
            int[] words = new int[5];
            for (int i = 0; i < 20; i++) {
                int sign = from + i < text.length() ? text.charAt(from + i) : 0;
                words[i / 4] = words[i / 4] << 8 | sign;
            }
            war.feed(words[0], words[1], words[2], words[3], words[4]);
        }
        war.trim(length);
    }

    // The same with bytes of 128 and more, which make a number negative and are no signs of a map.
    private static void bytesAreNotNegative() {
        for (int place = 0; place < 20; place++) {
            int[] words = {0x33333333, 0x33333333, 0x33333333, 0x0a333333, 0x33333333};
            words[place / 4] |= 0x80 << (24 - 8 * (place % 4));
            SapperWar war = new SapperWar();
            Check.due("feed", war.feed(words[0], words[1], words[2], words[3], words[4]), 20);
            Check.due("a byte of 128 and more at " + place, war.map(), place);
        }
        SapperWar war = new SapperWar();
        Check.due("feed of -1", war.feed(-1, -1, -1, -1, -1), 20);
        Check.due("bytes of 255", war.map(), 0);
        war.feed(Integer.MIN_VALUE, 0, 0, 0, 0);
        Check.due("a byte of 128", war.map(), 0);
        war.feed(0x33333333, Integer.MIN_VALUE, 0, 0, 0);
        Check.due("a byte of 128 behind four", war.map(), 4);
    }

    // "Shortens the tape to its first bytes." "Throws IllegalArgumentException if n is not 0 to the number of bytes"
    private static void shortening() {
        for (int bytes = 0; bytes <= 20; bytes++) {
            SapperWar war = new SapperWar();
            war.feed(0x33333333, 0x33333333, 0x33333333, 0x0a333333, 0x33333333);
            Check.due("trim(" + bytes + ") of 20", war.trim(bytes), bytes);
            Check.due("bytes of the tape", war.count(10), bytes);
            Check.due("once more", war.trim(bytes), bytes);
            int more = bytes + 1;
            Check.dueBadArgument("trim(" + more + ") of " + bytes, war, () -> war.trim(more));
            Check.dueBadArgument("trim(-1) of " + bytes, war, () -> war.trim(-1));
            Check.due("bytes of the tape", war.count(10), bytes);
            Check.due("the first bytes", war.map(), bytes);
        }
        Check.dueBadArgument("trim(201) of 200", () -> fed(200), w -> w.trim(201));
        Check.dueBadArgument("trim(200) of 199", () -> fed(199), w -> w.trim(200));
        Check.dueBadArgument("trim(-1) of 200", () -> fed(200), w -> w.trim(-1));
    }

    private static void cutOffBytesAreGone() {
        SapperWar war = new SapperWar();
        append(war, "99999");
        war.trim(2);
        append(war, MAP.substring(2));
        Check.due("a map", war.map(), -1);
        Check.dueCell("what was kept", war, 1, 0, 9);
        Check.dueCell("what came behind it", war, 2, 0, 3);
        append(war, "x");
        war.trim(0);
        append(war, MAP);
        Check.due("nothing of what was cut off is left", war.map(), -1);
    }

    // "A map is 12 lines .. of 12 bytes .., each with a line end (10) behind it, and nothing else."
    private static void aMapAndNothingElse() {
        SapperWar war = new SapperWar();
        append(war, MAP);
        Check.due("a tape of 156", war.count(10), 156);
        Check.due("a map", war.map(), -1);
        StringBuilder corners = new StringBuilder(MAP);
        corners.setCharAt(0, '1');
        corners.setCharAt(11, '2');
        corners.setCharAt(143, '4');
        corners.setCharAt(154, 'i');
        append(war, corners.toString());
        Check.due("a map", war.map(), -1);
        Check.dueCell("the first byte", war, 0, 0, 1, -1);
        Check.dueCell("the last one of the first line", war, 11, 0, 2, -1);
        Check.dueCell("the first one of the last line", war, 0, 11, 4, -1);
        Check.dueCell("the last one", war, 11, 11, 9, 20);
        Check.dueCell("behind the first line end", war, 0, 1, 3, -1);
    }

    // "if there is none, but the tape ends too early, its length"
    private static void endingTooEarly() {
        for (int length = 0; length < 156; length++) {
            SapperWar war = new SapperWar();
            append(war, MAP.substring(0, length));
            Check.due("a map that ends behind " + length, war.map(), length);
            Check.due("the tape behind it", war.count(10), 0);
        }
    }

    // ".. and nothing else": the byte 156 cannot be there, whatever it is.
    private static void tooLong() {
        for (int length = 157; length <= 200; length++) {
            SapperWar war = new SapperWar();
            append(war, MAP + (length % 3 == 0 ? "3" : length % 3 == 1 ? "\n" : "\0") + "3".repeat(length - 157));
            Check.due("a tape of " + length, war.map(), 156);
            Check.due("the tape behind it", war.count(10), 0);
        }
    }

    private static SapperWar withByte(int place, int sign) {
        SapperWar war = new SapperWar();
        append(war, MAP.substring(0, place) + (char) sign + MAP.substring(place + 1));
        return war;
    }

    // "1 to 9 is earth of this hardness, a to i earth of the hardness 1 to 9 under a wall of the strength 20,
    // # rock, and . a tunnel through earth of the hardness 3"
    private static void eachByteOfACell() {
        int[] places = {0, 11, 13, 76, 154};
        for (int place : places) {
            for (int sign = 0; sign < 256; sign++) {
                SapperWar war = withByte(place, sign);
                int kind = SIGNS.indexOf(sign);
                Check.due("the byte " + sign + " at " + place, war.map(), kind >= 0 ? -1 : place);
                int hardness = kind < 0 || kind == 19 ? 3 : kind == 18 ? 0 : kind % 9 + 1;
                int wall = kind >= 9 && kind < 18 ? 20 : -1;
                Check.dueCell("the byte " + sign + " at " + place, war, place % 13, place / 13, hardness, wall,
                        kind == 19 ? 1 : 0, 0, 0, 0, 0, 0);
            }
        }
    }

    private static void eachByteOfALineEnd() {
        int[] places = {12, 25, 142, 155};
        for (int place : places) {
            for (int sign = 0; sign < 256; sign++) {
                Check.due("the byte " + sign + " at " + place, withByte(place, sign).map(), sign == 10 ? -1 : place);
            }
        }
    }

    // "The place of an error is that of the first byte that cannot be there"
    private static void theFirstByteThatCannotBe() {
        for (int place = 0; place < 156; place++) {
            boolean lineEnd = place % 13 == 12;
            Check.due("an error at " + place, withByte(place, lineEnd ? '3' : 10).map(), place);
            SapperWar several = new SapperWar();
            append(several, MAP.substring(0, place) + "xx" + MAP.substring(place));
            Check.due("several errors, and too long, from " + place + " on", several.map(), place);
            SapperWar early = new SapperWar();
            append(early, MAP.substring(0, place) + "0");
            Check.due("an error at " + place + " before the early end", early.map(), place);
        }
    }

    // "With an error all stays (but the tape is empty)."
    private static void withAnErrorAllStays() {
        String[] wrong = {"", "1", MAP.substring(0, 155), MAP + "3", "x", "#########.ai9\n", LINE.repeat(11) + "............3"};
        int[] places = {0, 1, 155, 156, 0, 12, 155};
        for (int i = 0; i < wrong.length; i++) {
            SapperWar war = Check.busy();
            war.trim(0);
            append(war, wrong[i]);
            Check.due("an error", war.map(), places[i]);
            Check.due("the tape is empty", war.count(10), 0);
            SapperWar twin = Check.busy();
            twin.trim(0);
            Check.dueSame("all stays, with the place " + places[i], war, twin);
        }
    }

    // "map reads it, and it is empty behind it"
    private static void theTapeIsEmptyBehindAMap() {
        SapperWar war = Check.busy();
        Check.due("a map", war.map(), -1);
        Check.due("the tape is empty", war.count(10), 0);
        Check.dueBadArgument("trim(1) behind a map", war, () -> war.trim(1));
        long before = war.digest();
        Check.due("a map of nothing", war.map(), 0);
        Check.due("all stays", war.digest(), before);
        for (int i = 1; i <= 10; i++) {
            Check.due("there is room for 200", war.feed(0, 0, 0, 0, 0), 20 * i);
        }
    }

    // "Reads the tape as a map, in the place of all cells"
    private static void inThePlaceOfAllCells() {
        for (int kind = 0; kind < SIGNS.length(); kind++) {
            for (int y = 0; y < 12; y += 3) {
                SapperWar war = Check.busy();
                war.trim(0);
                append(war, (SIGNS.substring(kind, kind + 1).repeat(12) + "\n").repeat(12));
                Check.due("a map of " + SIGNS.charAt(kind), war.map(), -1);
                int hardness = kind == 19 ? 3 : kind == 18 ? 0 : kind % 9 + 1;
                for (int x = 0; x < 12; x++) {
                    Check.dueCell("all " + SIGNS.charAt(kind), war, x, Math.max(0, y - 1), hardness,
                            kind >= 9 && kind < 18 ? 20 : -1, kind == 19 ? 1 : 0, 0, 0, 0, 0, 0);
                }
                int walls = kind >= 9 && kind < 18 ? 144 : 0;
                int[] counts = {8, 0, 0, 0, kind == 19 ? 144 : 0, walls, 0, 0, 1, 0, 0, 156};
                for (int what = 0; what < 12; what++) {
                    Check.due("all " + SIGNS.charAt(kind) + ", count(" + what + ")", war.count(what), counts[what]);
                }
            }
        }
    }

    // A map says nothing of the hour, the paper, and what fell in "in all".
    private static void whatAMapLeaves() {
        SapperWar war = Check.busy();
        int sign = war.byteAt(0);
        Check.due("a map", war.map(), -1);
        Check.due("the hour", war.count(0), 8);
        Check.due("tunnels that fell in in all", war.count(8), 1);
        Check.due("bytes of the paper", war.count(11), 156);
        Check.due("the paper", war.byteAt(0), sign);
        Check.due("no wall falls by it", war.foresee(1, 0), 0);
    }

    // "all teams are taken away" ".. (those that there are)"
    private static void allTeamsAreTakenAway() {
        SapperWar war = Check.busy();
        war.come(0, 11, 11, 9, 5);
        war.come(0, 11, 11, 9, 5);
        war.come(0, 11, 11, 9, 5);
        war.order(0, Check.GO, Check.UP, 1);
        war.clear(0);
        war.order(0, Check.GO, Check.LEFT, 1);
        war.pass(1);
        Check.due("8 teams", war.count(1), 8);
        Check.due("one missed an order", war.count(9) > 0 ? 1 : 0, 1);
        Check.due("a map", war.map(), -1);
        for (int what : new int[] {1, 2, 3, 9}) {
            Check.due("count(" + what + ")", war.count(what), 0);
        }
        for (int team = -1; team <= 8; team++) {
            int number = team;
            Check.dueOutside("team " + team, war, () -> war.team(number, 0));
            Check.dueOutside("heard " + team, war, () -> war.heard(number, 0));
            Check.dueOutside("order " + team, war, () -> war.order(number, 0, 0, 1));
            Check.dueOutside("lasts " + team, war, () -> war.lasts(number));
        }
        for (int team = 0; team < 8; team++) {
            Check.due("8 can come again", war.come(1, 10, 0, 9, 1), team);
            for (int what = 5; what < 10; what++) {
                Check.due("new, " + what, war.team(team, what), what == 8 ? -1 : 0);
            }
            for (int what = 0; what < 3; what++) {
                Check.due("new, heard " + what, war.heard(team, what), -1);
            }
        }
        Check.dueBadState("a ninth", war, () -> war.come(1, 10, 0, 9, 1));
    }

    // "a cell that is earth is a tunnel now" "Returns the hardness."
    private static void openingEachHardness() {
        SapperWar war = Check.war("123456789", "abcdefghi");
        for (int x = 0; x < 9; x++) {
            Check.due("earth", war.openAt(x, 0), x + 1);
            Check.dueCell("earth", war, x, 0, x + 1, -1, 1, 0, 0, 0, 0, 0);
            Check.due("under a wall", war.openAt(x, 1), x + 1);
            Check.dueCell("under a wall", war, x, 1, x + 1, 20, 1, 0, 0, 0, 0, 0);
        }
        Check.due("tunnels", war.count(4), 18);
        Check.due("walls", war.count(5), 9);
    }

    // "x and y are 0 to 11"
    private static void openingTheCorners() {
        SapperWar war = new SapperWar();
        int[][] corners = {{0, 0}, {11, 0}, {0, 11}, {11, 11}};
        for (int[] corner : corners) {
            Check.due("a corner", war.openAt(corner[0], corner[1]), 3);
            Check.dueCell("a corner", war, corner[0], corner[1], 3, -1, 1);
        }
        int[][] beside = {{-1, 0}, {0, -1}, {12, 0}, {11, -1}, {-1, 11}, {0, 12}, {12, 11}, {11, 12}, {-1, -1}, {12, 12}};
        for (int[] cell : beside) {
            Check.dueOutside("beside a corner", MapEdgesTest::withCorners, w -> w.openAt(cell[0], cell[1]));
            Check.dueOutside("beside a corner", MapEdgesTest::withCorners, w -> w.cell(cell[0], cell[1], 0));
            Check.dueOutside("beside a corner", MapEdgesTest::withCorners, w -> w.come(0, cell[0], cell[1], 1, 1));
        }
    }

    private static SapperWar withCorners() {
        return Check.war("..........3.", "3", "3", "3", "3", "3", "3", "3", "3", "3", "3", "...........3");
    }

    // "Throws IllegalStateException if it is rock, or a tunnel already"
    private static void openingWhatIsNoEarth() {
        Check.dueBadState("rock", () -> Check.war("#.b"), w -> w.openAt(0, 0));
        Check.dueBadState("a tunnel of the map", () -> Check.war("#.b"), w -> w.openAt(1, 0));
        Check.dueBadState("a tunnel opened before", () -> opened(new SapperWar()), w -> w.openAt(0, 0));
        Check.dueBadState("a tunnel with much in it", Check::busy, w -> w.openAt(0, 0));
        Check.dueBadState("a tunnel that was dug", MapEdgesTest::dug, w -> w.openAt(1, 0));
    }

    private static SapperWar dug() {
        SapperWar war = Check.war(".1");
        war.come(0, 0, 0, 9, 5);
        war.order(0, Check.DIG, Check.RIGHT, 1);
        war.pass(1);
        return war;
    }

    // "is a tunnel now, with nothing in it"
    private static void withNothingInIt() {
        SapperWar war = Check.war(".3");
        war.come(0, 0, 0, 9, 4);
        war.order(0, Check.DIG, Check.RIGHT, 1);
        war.pass(2);
        Check.dueCell("all but one of the work", war, 1, 0, 3, -1, 0, 0, 0, 0, 8, 0);
        Check.due("opened", war.openAt(1, 0), 3);
        Check.dueCell("no work", war, 1, 0, 3, -1, 1, 0, 0, 0, 0, 0);
    }

    // A tunnel that fell in is earth of the hardness 2, and can be opened again, with nothing in it.
    private static void openingWhatFellIn() {
        SapperWar war = Check.war("i");
        war.openAt(0, 0);
        war.come(0, 0, 0, 9, 1);
        war.order(0, Check.PROP, 0, 2);
        war.order(0, Check.SMOKE, 0, 1);
        war.order(0, Check.FIRE, 0, 1);
        war.pass(2);
        war.clear(0);
        war.order(0, Check.FIRE, 0, 1);
        war.order(0, Check.SMOKE, 0, 1);
        war.order(0, Check.PROP, 0, 2);
        war.pass(4);
        Check.dueCell("fallen in", war, 0, 0, 2, 12, 0, 0, 0, 0, 0, 0);
        Check.due("opened again", war.openAt(0, 0), 2);
        Check.dueCell("with nothing in it", war, 0, 0, 2, 12, 1, 0, 0, 0, 0, 0);
        Check.dueHealth("the team does not come back", war, 0);
        Check.due("teams of the side 0", war.count(2), 0);
    }

    // "0 its hardness, 0 for rock" "-1 without one" "else 0" "3 to 5 and 7: 0 without a tunnel, 6: 0 with one"
    private static void cellsOfEachKind() {
        SapperWar war = Check.war("#9.i", "...");
        war.come(0, 2, 0, 9, 5);
        war.order(0, Check.DIG, Check.LEFT, 1);
        war.pass(1);
        Check.dueCell("rock", war, 0, 0, 0, -1, 0, 0, 0, 0, 0, 0);
        Check.dueCell("earth with work", war, 1, 0, 9, -1, 0, 0, 0, 0, 5, 0);
        Check.dueCell("a tunnel with an age", war, 2, 0, 3, -1, 1, 0, 1, 0, 0, 0);
        Check.dueCell("earth under a wall", war, 3, 0, 9, 20, 0, 0, 0, 0, 0, 0);
        war.clear(0);
        war.order(0, Check.PROP, 0, 3);
        war.order(0, Check.SMOKE, 0, 1);
        war.pass(4);
        Check.due("3 props", war.cell(2, 0, 3), 3);
        Check.due("smoke", war.cell(2, 0, 5), 9 / 2 - 1);
        war.order(0, Check.FIRE, 0, 1);
        war.pass(1);
        Check.due("hours to burn", war.cell(2, 0, 7), 3);
        Check.due("no props", war.cell(2, 0, 3), 0);
        Check.due("work stays", war.cell(1, 0, 6), 5);
        war.pass(3);
        Check.dueCell("fallen in", war, 2, 0, 2, -1, 0, 0, 0, 0, 0, 0);

        SapperWar wall = Check.war("a");
        int[] strengths = {20, 12, 4, 0, 0};
        for (int falls = 0; falls < strengths.length; falls++) {
            Check.due("the strength behind " + falls, wall.cell(0, 0, 1), strengths[falls]);
            wall.openAt(0, 0);
            wall.pass(9);
        }
    }

    // "neighbours of a cell are the cells there, as far as there are some": no row goes on in the next one.
    private static void neighboursAtTheEdge() {
        SapperWar rows = Check.war("..........9.", ".", "99999999999.", ".", "99999999999.");
        rows.come(0, 11, 2, 9, 5);
        rows.come(1, 0, 3, 9, 5);
        rows.order(0, Check.SMOKE, 0, 1);
        rows.order(0, Check.FIRE, 0, 1);
        rows.order(0, Check.GO, Check.RIGHT, 1);
        rows.order(1, Check.GO, Check.LEFT, 1);
        rows.pass(1);
        Check.dueHealth("no neighbours, no fight", rows, 9, 9);
        Check.due("missed", rows.team(1, 6), 1);
        Check.due("smoke stays", rows.cell(11, 2, 5), 8);
        Check.due("no smoke", rows.cell(0, 3, 5), 0);
        Check.due("no way", rows.way(11, 2, 0, 3), -1);
        Check.due("no way", rows.way(0, 1, 11, 0), -1);
        rows.pass(2);
        Check.duePlace("nowhere to flee", rows, 0, 11, 2);
        rows.pass(2);
        Check.due("fire in its cell", rows.cell(11, 2, 7), 3);
        Check.due("no fire", rows.cell(0, 3, 7), 0);
        rows.pass(1);
        Check.due("missed", rows.team(0, 6), 1);
        Check.duePlace("outside", rows, 0, 11, 2);
    }

    // "An object is used for at most 512 calls": the last of them answers as the first would.
    private static void calls() {
        SapperWar war = Check.busy();
        SapperWar twin = Check.busy();
        for (int i = 0; i < 440; i++) {
            switch (i % 4) {
                case 0: war.falls(9, 0); break;
                case 1: war.lasts(4); break;
                case 2: war.foresee(150, 3); break;
                default: war.advise(4, 60); break;
            }
        }
        Check.due("pass behind many calls", war.pass(3), twin.pass(3));
        Check.due("digest behind many calls", war.digest(), twin.digest());
        Check.due("foresee behind many calls", war.foresee(150, 3), twin.foresee(150, 3));
    }
}
