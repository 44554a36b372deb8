import java.util.Arrays;

/**
 * A siege under the ground: two sides dig tunnels under a grid, prop them, listen for each other,
 * smoke, fight and burn, until the earth falls in and the walls above fall with it.
 */
public final class SapperWar {
    private static final int SIZE = 12;
    private static final int CELLS = 144;
    private static final int DIRECTIONS = 4;
    private static final int MOST_TEAMS = 8;
    private static final int MOST_ORDERS = 12;
    private static final int MOST_TIMES = 20;
    private static final int MOST_TAPE = 200;
    private static final int MOST_HOURS_PASSED = 200;
    private static final int MOST_HOURS_FORESEEN = 150;
    private static final int MOST_HOURS_ADVISED = 60;

    private static final int LINE = 13;
    private static final int DRAWING = 156;
    private static final int LINE_END = 10;

    private static final int ROCK = 0;
    private static final int NO_WALL = -1;
    private static final int FRESH_WALL = 20;
    private static final int WALL_LOSS = 8;
    private static final int PLAIN_HARDNESS = 3;
    private static final int FALLEN_HARDNESS = 2;
    private static final int MOST_PROPS = 3;
    private static final int FULL_SMOKE = 9;
    private static final int CHOKING_SMOKE = 6;
    private static final int BURNING_HOURS = 4;

    private static final int DIG = 1;
    private static final int GO = 2;
    private static final int PROP = 3;
    private static final int LISTEN = 4;
    private static final int SMOKE = 5;
    private static final int FIRE = 6;
    private static final int KINDS = 7;
    private static final int[] NOISES = {0, 3, 1, 2, 0, 1, 4};
    private static final int FIGHT_NOISE = 6;
    private static final int FLEE_NOISE = 1;
    private static final int MOST_LOSS = 3;

    private static final int COUNTS = 12;
    private static final int CELL_VALUES = 8;
    private static final int TEAM_VALUES = 10;
    private static final int HEARD_VALUES = 3;
    private static final int FORESEEN_VALUES = 4;
    private static final long DIGEST_START = 709L;

    private final Tape tape = new Tape();
    private final int[] paper = new int[DRAWING];
    private int paperLength = 0;
    private final Siege siege = new Siege();
    /** Made once and written over by each look ahead, so that no call makes objects. */
    private final Siege future = new Siege();
    private final Ways ways = new Ways();

    public SapperWar() {
    }

    // ---- the map

    public int feed(int a, int b, int c, int d, int e) throws IllegalStateException {
        if (tape.length + 20 > MOST_TAPE) {
            throw new IllegalStateException("the tape has no room");
        }
        tape.append(a);
        tape.append(b);
        tape.append(c);
        tape.append(d);
        tape.append(e);
        return tape.length;
    }

    public int trim(int n) throws IllegalArgumentException {
        if (n < 0 || n > tape.length) {
            throw new IllegalArgumentException("not so many bytes");
        }
        tape.length = n;
        return n;
    }

    public int map() {
        int error = tape.placeOfError();
        if (error < 0) {
            siege.grid.readMap(tape.bytes);
            siege.teamCount = 0;
        }
        tape.length = 0;
        return error;
    }

    public int openAt(int x, int y) throws IndexOutOfBoundsException, IllegalStateException {
        if (!isInside(x, y)) {
            throw new IndexOutOfBoundsException("no such cell");
        }
        int cell = cellAt(x, y);
        Grid grid = siege.grid;
        if (grid.isRock(cell) || grid.isTunnel(cell)) {
            throw new IllegalStateException("no earth");
        }
        grid.openTunnel(cell);
        return grid.hardness[cell];
    }

    public int cell(int x, int y, int what) throws IndexOutOfBoundsException {
        if (!isInside(x, y) || what < 0 || what >= CELL_VALUES) {
            throw new IndexOutOfBoundsException("no such cell or value");
        }
        return siege.grid.valueOf(cellAt(x, y), what);
    }

    // ---- teams

    public int come(int side, int x, int y, int health, int skill)
            throws IndexOutOfBoundsException, IllegalArgumentException, IllegalStateException {
        if (!isInside(x, y)) {
            throw new IndexOutOfBoundsException("no such cell");
        }
        if (side < 0 || side > 1 || health < 1 || health > 9 || skill < 1 || skill > 5) {
            throw new IllegalArgumentException("no such team can be");
        }
        int cell = cellAt(x, y);
        if (siege.teamCount >= MOST_TEAMS || !siege.grid.isTunnel(cell)) {
            throw new IllegalStateException("no room for a team");
        }
        int number = siege.teamCount;
        siege.teams[number].start(side, cell, health, skill);
        siege.teamCount++;
        return number;
    }

    public int order(int team, int kind, int direction, int times)
            throws IndexOutOfBoundsException, IllegalArgumentException, IllegalStateException {
        if (!siege.hasTeam(team)) {
            throw new IndexOutOfBoundsException("no such team");
        }
        if (kind < 0 || kind >= KINDS || direction < 0 || direction >= DIRECTIONS
                || times < 1 || times > MOST_TIMES) {
            throw new IllegalArgumentException("no such order can be");
        }
        Team ordered = siege.teams[team];
        if (ordered.isGone() || ordered.orderCount >= MOST_ORDERS) {
            throw new IllegalStateException("the team takes no order");
        }
        ordered.addOrder(kind, direction, times);
        return ordered.orderCount;
    }

    public int clear(int team) throws IndexOutOfBoundsException {
        if (!siege.hasTeam(team)) {
            throw new IndexOutOfBoundsException("no such team");
        }
        int had = siege.teams[team].orderCount;
        siege.teams[team].orderCount = 0;
        return had;
    }

    public int team(int team, int what) throws IndexOutOfBoundsException {
        if (!siege.hasTeam(team) || what < 0 || what >= TEAM_VALUES) {
            throw new IndexOutOfBoundsException("no such team or value");
        }
        return siege.teams[team].valueOf(what);
    }

    public int heard(int team, int what) throws IndexOutOfBoundsException {
        if (!siege.hasTeam(team) || what < 0 || what >= HEARD_VALUES) {
            throw new IndexOutOfBoundsException("no such team or value");
        }
        return siege.teams[team].heardValue(what);
    }

    // ---- hours

    public int pass(int hours) throws IllegalArgumentException {
        if (hours < 1 || hours > MOST_HOURS_PASSED) {
            throw new IllegalArgumentException("not so many hours");
        }
        int before = siege.grid.wallFalls;
        siege.letHoursGoBy(hours);
        return siege.grid.wallFalls - before;
    }

    public int count(int what) throws IndexOutOfBoundsException {
        if (what < 0 || what >= COUNTS) {
            throw new IndexOutOfBoundsException("no such count");
        }
        return countOf(what);
    }

    // ---- ways and work

    public int way(int x, int y, int toX, int toY) throws IndexOutOfBoundsException {
        if (!isInside(x, y) || !isInside(toX, toY)) {
            throw new IndexOutOfBoundsException("no such cell");
        }
        int from = cellAt(x, y);
        int to = cellAt(toX, toY);
        if (!siege.grid.isTunnel(from) || !siege.grid.isTunnel(to)) {
            return -1;
        }
        ways.searchFrom(siege.grid, from, Ways.NO_DIGGING);
        return ways.hoursTo[to];
    }

    public int reach(int team, int x, int y) throws IndexOutOfBoundsException {
        if (!siege.hasTeam(team) || !isInside(x, y)) {
            throw new IndexOutOfBoundsException("no such team or cell");
        }
        Team digger = siege.teams[team];
        ways.searchFrom(siege.grid, digger.cell, digger.skill);
        return ways.hoursTo[cellAt(x, y)];
    }

    public int target(int team) throws IndexOutOfBoundsException {
        if (!siege.hasTeam(team)) {
            throw new IndexOutOfBoundsException("no such team");
        }
        Team digger = siege.teams[team];
        ways.searchFrom(siege.grid, digger.cell, digger.skill);
        return ways.nearestWall(siege.grid);
    }

    // ---- looking ahead

    public int foresee(int hours, int what) throws IllegalArgumentException, IndexOutOfBoundsException {
        if (hours < 1 || hours > MOST_HOURS_FORESEEN) {
            throw new IllegalArgumentException("not so many hours");
        }
        if (what < 0 || what >= FORESEEN_VALUES) {
            throw new IndexOutOfBoundsException("no such value");
        }
        future.copyFrom(siege);
        future.letHoursGoBy(hours);
        switch (what) {
            case 0:
                return future.grid.wallFalls - siege.grid.wallFalls;
            case 1:
                return future.teamsLeft(0);
            case 2:
                return future.teamsLeft(1);
            default:
                return future.grid.fallIns - siege.grid.fallIns;
        }
    }

    public int falls(int x, int y) throws IndexOutOfBoundsException {
        if (!isInside(x, y)) {
            throw new IndexOutOfBoundsException("no such cell");
        }
        int cell = cellAt(x, y);
        future.copyFrom(siege);
        for (int hours = 1; hours <= MOST_HOURS_FORESEEN; hours++) {
            future.letHoursGoBy(1);
            if (future.grid.fellIn[cell] != 0) {
                return hours;
            }
        }
        return -1;
    }

    public int lasts(int team) throws IndexOutOfBoundsException {
        if (!siege.hasTeam(team)) {
            throw new IndexOutOfBoundsException("no such team");
        }
        if (siege.teams[team].isGone()) {
            return 0;
        }
        future.copyFrom(siege);
        for (int hours = 1; hours <= MOST_HOURS_FORESEEN; hours++) {
            future.letHoursGoBy(1);
            if (future.teams[team].isGone()) {
                return hours;
            }
        }
        return -1;
    }

    public int advise(int team, int hours) throws IndexOutOfBoundsException, IllegalArgumentException {
        if (!siege.hasTeam(team)) {
            throw new IndexOutOfBoundsException("no such team");
        }
        if (hours < 1 || hours > MOST_HOURS_ADVISED) {
            throw new IllegalArgumentException("not so many hours");
        }
        if (siege.teams[team].isGone()) {
            return -1;
        }
        int best = -1;
        int most = -1;
        for (int direction = 0; direction < DIRECTIONS; direction++) {
            int tunnels = tunnelsAfterDigging(team, direction, hours);
            if (tunnels > most) {
                most = tunnels;
                best = direction;
            }
        }
        return best;
    }

    // ---- drawing

    public int draw() {
        for (int place = 0; place < DRAWING; place++) {
            int x = place % LINE;
            paper[place] = x == SIZE ? LINE_END : signOf(cellAt(x, place / LINE));
        }
        paperLength = DRAWING;
        return paperLength;
    }

    public int byteAt(int index) throws IndexOutOfBoundsException {
        if (index < 0 || index >= paperLength) {
            throw new IndexOutOfBoundsException("no such place");
        }
        return paper[index];
    }

    public double share() {
        int fallen = siege.grid.wallsFallen();
        int all = fallen + siege.grid.wallsStanding();
        if (all == 0) {
            return 0.0;
        }
        return (double) fallen / (double) all;
    }

    public long digest() {
        long d = DIGEST_START;
        for (int what = 0; what < COUNTS; what++) {
            d = d * 31 + countOf(what);
        }
        for (int cell = 0; cell < CELLS; cell++) {
            for (int what = 0; what < CELL_VALUES; what++) {
                d = d * 31 + siege.grid.valueOf(cell, what);
            }
        }
        for (int t = 0; t < siege.teamCount; t++) {
            for (int what = 0; what < TEAM_VALUES; what++) {
                d = d * 31 + siege.teams[t].valueOf(what);
            }
            for (int what = 0; what < HEARD_VALUES; what++) {
                d = d * 31 + siege.teams[t].heardValue(what);
            }
        }
        for (int place = 0; place < paperLength; place++) {
            d = d * 31 + paper[place];
        }
        return d;
    }

    private int countOf(int what) {
        Grid grid = siege.grid;
        switch (what) {
            case 0:
                return siege.hour;
            case 1:
                return siege.teamCount;
            case 2:
                return siege.teamsLeft(0);
            case 3:
                return siege.teamsLeft(1);
            case 4:
                return grid.tunnels();
            case 5:
                return grid.wallsStanding();
            case 6:
                return grid.wallsFallen();
            case 7:
                return grid.allSmoke();
            case 8:
                return grid.fallIns;
            case 9:
                return siege.missedOrders();
            case 10:
                return tape.length;
            default:
                return paperLength;
        }
    }

    private int tunnelsAfterDigging(int team, int direction, int hours) {
        future.copyFrom(siege);
        future.teams[team].orderCount = 0;
        future.teams[team].addOrder(DIG, direction, MOST_TIMES);
        future.letHoursGoBy(hours);
        return future.grid.tunnels();
    }

    private int signOf(int cell) {
        int side = siege.sideAt(cell);
        if (side >= 0) {
            return '0' + side;
        }
        Grid grid = siege.grid;
        boolean tunnel = grid.isTunnel(cell);
        if (grid.wall[cell] == 0) {
            return 'X';
        }
        if (grid.wall[cell] > 0) {
            return tunnel ? 'w' : 'W';
        }
        if (grid.isRock(cell)) {
            return '#';
        }
        if (tunnel) {
            return grid.smoke[cell] > 0 ? '*' : '.';
        }
        return '0' + grid.hardness[cell];
    }

    private static boolean isInside(int x, int y) {
        return x >= 0 && x < SIZE && y >= 0 && y < SIZE;
    }

    private static int cellAt(int x, int y) {
        return SIZE * y + x;
    }

    /** The neighbour of a cell in a direction, -1 outside. */
    private static int neighbour(int cell, int direction) {
        int x = cell % SIZE;
        int y = cell / SIZE;
        switch (direction) {
            case 0:
                return y > 0 ? cell - SIZE : -1;
            case 1:
                return x < SIZE - 1 ? cell + 1 : -1;
            case 2:
                return y < SIZE - 1 ? cell + SIZE : -1;
            default:
                return x > 0 ? cell - 1 : -1;
        }
    }

    private static int distance(int a, int b) {
        return Math.abs(a % SIZE - b % SIZE) + Math.abs(a / SIZE - b / SIZE);
    }

    /** The bytes that wait to be read as a map. */
    private static final class Tape {
        final int[] bytes = new int[MOST_TAPE];
        int length = 0;

        void append(int number) {
            if (length < 0 || length + 4 > MOST_TAPE) {
                return;
            }
            for (int i = 0; i < 4; i++) {
                bytes[length] = (number >>> (24 - 8 * i)) & 255;
                length++;
            }
        }

        /** The place of the first byte that makes it no map, or -1. */
        int placeOfError() {
            for (int place = 0; place < length; place++) {
                if (!fits(place)) {
                    return place;
                }
            }
            return length < DRAWING ? length : -1;
        }

        private boolean fits(int place) {
            if (place >= DRAWING) {
                return false;
            }
            int sign = bytes[place];
            if (place % LINE == SIZE) {
                return sign == LINE_END;
            }
            return (sign >= '1' && sign <= '9') || (sign >= 'a' && sign <= 'i') || sign == '#' || sign == '.';
        }
    }

    /** The cells, by 12 * y and x. */
    private static final class Grid {
        final int[] hardness = new int[CELLS];
        final int[] wall = new int[CELLS];
        final int[] tunnel = new int[CELLS];
        final int[] props = new int[CELLS];
        final int[] age = new int[CELLS];
        final int[] smoke = new int[CELLS];
        final int[] work = new int[CELLS];
        final int[] burning = new int[CELLS];
        /** 1 where a tunnel fell in in the latest hour, otherwise 0; each hour tells it anew. */
        final int[] fellIn = new int[CELLS];
        private final int[] smokeBefore = new int[CELLS];
        int fallIns = 0;
        int wallFalls = 0;

        Grid() {
            Arrays.fill(hardness, PLAIN_HARDNESS);
            Arrays.fill(wall, NO_WALL);
        }

        void copyFrom(Grid other) {
            System.arraycopy(other.hardness, 0, hardness, 0, CELLS);
            System.arraycopy(other.wall, 0, wall, 0, CELLS);
            System.arraycopy(other.tunnel, 0, tunnel, 0, CELLS);
            System.arraycopy(other.props, 0, props, 0, CELLS);
            System.arraycopy(other.age, 0, age, 0, CELLS);
            System.arraycopy(other.smoke, 0, smoke, 0, CELLS);
            System.arraycopy(other.work, 0, work, 0, CELLS);
            System.arraycopy(other.burning, 0, burning, 0, CELLS);
            fallIns = other.fallIns;
            wallFalls = other.wallFalls;
        }

        /** Takes all cells from bytes that are known to be a map. */
        void readMap(int[] bytes) {
            if (bytes.length < DRAWING) {
                return;
            }
            for (int cell = 0; cell < CELLS; cell++) {
                readCell(cell, bytes[LINE * (cell / SIZE) + cell % SIZE]);
            }
        }

        private void readCell(int cell, int sign) {
            wall[cell] = NO_WALL;
            makeEarth(cell, PLAIN_HARDNESS);
            if (sign == '.') {
                openTunnel(cell);
            } else if (sign == '#') {
                hardness[cell] = ROCK;
            } else if (sign >= 'a') {
                hardness[cell] = sign - 'a' + 1;
                wall[cell] = FRESH_WALL;
            } else {
                hardness[cell] = sign - '0';
            }
        }

        boolean isRock(int cell) {
            return hardness[cell] == ROCK;
        }

        boolean isTunnel(int cell) {
            return tunnel[cell] == 1;
        }

        void openTunnel(int cell) {
            empty(cell);
            tunnel[cell] = 1;
        }

        void makeEarth(int cell, int itsHardness) {
            empty(cell);
            tunnel[cell] = 0;
            hardness[cell] = itsHardness;
        }

        private void empty(int cell) {
            props[cell] = 0;
            age[cell] = 0;
            smoke[cell] = 0;
            work[cell] = 0;
            burning[cell] = 0;
        }

        /** The work that opens a tunnel there, less what is done. */
        int workLeft(int cell) {
            return 3 * hardness[cell] - work[cell];
        }

        /** Burns the props of a tunnel and of all tunnels to which a way of at most 2 steps leads. */
        void setFire(int cell) {
            burn(cell);
            for (int first = 0; first < DIRECTIONS; first++) {
                int near = neighbour(cell, first);
                if (near >= 0 && isTunnel(near)) {
                    burn(near);
                    burnNeighbours(near);
                }
            }
        }

        private void burnNeighbours(int cell) {
            for (int direction = 0; direction < DIRECTIONS; direction++) {
                int near = neighbour(cell, direction);
                if (near >= 0 && isTunnel(near)) {
                    burn(near);
                }
            }
        }

        private void burn(int cell) {
            props[cell] = 0;
            if (burning[cell] == 0) {
                burning[cell] = BURNING_HOURS;
            }
        }

        void spreadSmoke() {
            // Most hours have no smoke at all, and without any none comes.
            if (allSmoke() == 0) {
                return;
            }
            System.arraycopy(smoke, 0, smokeBefore, 0, CELLS);
            for (int cell = 0; cell < CELLS; cell++) {
                if (isTunnel(cell)) {
                    smoke[cell] = Math.max(0, averageSmokeBefore(cell) - 1);
                }
            }
        }

        private int averageSmokeBefore(int cell) {
            int sum = smokeBefore[cell];
            int cells = 1;
            for (int direction = 0; direction < DIRECTIONS; direction++) {
                int near = neighbour(cell, direction);
                if (near >= 0 && isTunnel(near)) {
                    sum += smokeBefore[near];
                    cells++;
                }
            }
            return sum / cells;
        }

        void settle() {
            for (int cell = 0; cell < CELLS; cell++) {
                fellIn[cell] = 0;
                if (isTunnel(cell) && givesWay(cell)) {
                    fallIn(cell);
                }
            }
        }

        private boolean givesWay(int cell) {
            if (burning[cell] > 0) {
                burning[cell]--;
                return burning[cell] == 0;
            }
            if (props[cell] >= propsNeeded(cell)) {
                age[cell] = 0;
            } else {
                age[cell]++;
            }
            return age[cell] > 4 * hardness[cell];
        }

        private int propsNeeded(int cell) {
            if (hardness[cell] >= 7) {
                return 0;
            }
            return hardness[cell] >= 4 ? 1 : 2;
        }

        private void fallIn(int cell) {
            makeEarth(cell, FALLEN_HARDNESS);
            fellIn[cell] = 1;
            fallIns++;
            if (wall[cell] > 0) {
                wall[cell] = Math.max(0, wall[cell] - WALL_LOSS);
                if (wall[cell] == 0) {
                    wallFalls++;
                }
            }
        }

        int valueOf(int cell, int what) {
            switch (what) {
                case 0:
                    return hardness[cell];
                case 1:
                    return wall[cell];
                case 2:
                    return tunnel[cell];
                case 3:
                    return props[cell];
                case 4:
                    return age[cell];
                case 5:
                    return smoke[cell];
                case 6:
                    return work[cell];
                default:
                    return burning[cell];
            }
        }

        int tunnels() {
            int sum = 0;
            for (int cell = 0; cell < CELLS; cell++) {
                sum += tunnel[cell];
            }
            return sum;
        }

        int allSmoke() {
            int sum = 0;
            for (int cell = 0; cell < CELLS; cell++) {
                sum += smoke[cell];
            }
            return sum;
        }

        int wallsStanding() {
            int sum = 0;
            for (int cell = 0; cell < CELLS; cell++) {
                sum += wall[cell] > 0 ? 1 : 0;
            }
            return sum;
        }

        int wallsFallen() {
            int sum = 0;
            for (int cell = 0; cell < CELLS; cell++) {
                sum += wall[cell] == 0 ? 1 : 0;
            }
            return sum;
        }
    }

    /** A team, with its orders one behind the other. */
    private static final class Team {
        int side = 0;
        int cell = 0;
        int health = 0;
        int skill = 1;
        int missed = 0;
        int noise = 0;
        int loss = 0;
        boolean fights = false;
        boolean listened = false;
        int heardHour = -1;
        int heardDirection = -1;
        int heardLoudness = -1;
        int orderCount = 0;
        private final int[] kinds = new int[MOST_ORDERS];
        private final int[] directions = new int[MOST_ORDERS];
        private final int[] times = new int[MOST_ORDERS];

        void start(int itsSide, int itsCell, int itsHealth, int itsSkill) {
            side = itsSide;
            cell = itsCell;
            health = itsHealth;
            skill = itsSkill;
            missed = 0;
            heardHour = -1;
            heardDirection = -1;
            heardLoudness = -1;
            orderCount = 0;
            beginHour();
        }

        void copyFrom(Team other) {
            side = other.side;
            cell = other.cell;
            health = other.health;
            skill = other.skill;
            missed = other.missed;
            noise = other.noise;
            loss = other.loss;
            fights = other.fights;
            listened = other.listened;
            heardHour = other.heardHour;
            heardDirection = other.heardDirection;
            heardLoudness = other.heardLoudness;
            orderCount = other.orderCount;
            System.arraycopy(other.kinds, 0, kinds, 0, MOST_ORDERS);
            System.arraycopy(other.directions, 0, directions, 0, MOST_ORDERS);
            System.arraycopy(other.times, 0, times, 0, MOST_ORDERS);
        }

        void beginHour() {
            noise = 0;
            loss = 0;
            fights = false;
            listened = false;
        }

        boolean isGone() {
            return health <= 0;
        }

        /** Whether the cell is that of the team, or a neighbour of it. */
        boolean isNear(int otherCell) {
            return distance(cell, otherCell) <= 1;
        }

        void loseHealth(int much) {
            health = Math.max(0, health - much);
        }

        void addOrder(int kind, int direction, int howOften) {
            if (orderCount < 0 || orderCount >= MOST_ORDERS) {
                return;
            }
            kinds[orderCount] = kind;
            directions[orderCount] = direction;
            times[orderCount] = howOften;
            orderCount++;
        }

        int firstKind() {
            return orderCount > 0 ? kinds[0] : -1;
        }

        int firstDirection() {
            return directions[0];
        }

        void countFirstOrder() {
            times[0]--;
            if (times[0] <= 0) {
                dropFirstOrder();
            }
        }

        void missFirstOrder() {
            missed++;
            dropFirstOrder();
        }

        private void dropFirstOrder() {
            for (int i = 1; i < MOST_ORDERS; i++) {
                kinds[i - 1] = kinds[i];
                directions[i - 1] = directions[i];
                times[i - 1] = times[i];
            }
            orderCount--;
        }

        void remember(int hour, int direction, int loudness) {
            heardHour = hour;
            heardDirection = direction;
            heardLoudness = loudness;
        }

        int valueOf(int what) {
            switch (what) {
                case 0:
                    return side;
                case 1:
                    return cell % SIZE;
                case 2:
                    return cell / SIZE;
                case 3:
                    return health;
                case 4:
                    return skill;
                case 5:
                    return orderCount;
                case 6:
                    return missed;
                case 7:
                    return noise;
                case 8:
                    return firstKind();
                default:
                    return orderCount > 0 ? times[0] : 0;
            }
        }

        int heardValue(int what) {
            switch (what) {
                case 0:
                    return heardHour;
                case 1:
                    return heardDirection;
                default:
                    return heardLoudness;
            }
        }
    }

    /** All that changes as hours go by: the grid, the teams and the hour. */
    private static final class Siege {
        final Grid grid = new Grid();
        final Team[] teams = new Team[MOST_TEAMS];
        int teamCount = 0;
        int hour = 0;

        Siege() {
            for (int t = 0; t < MOST_TEAMS; t++) {
                teams[t] = new Team();
            }
        }

        void copyFrom(Siege other) {
            grid.copyFrom(other.grid);
            teamCount = other.teamCount;
            hour = other.hour;
            for (int t = 0; t < teamCount; t++) {
                teams[t].copyFrom(other.teams[t]);
            }
        }

        boolean hasTeam(int number) {
            return number >= 0 && number < teamCount;
        }

        int teamsLeft(int side) {
            int left = 0;
            for (int t = 0; t < teamCount; t++) {
                if (teams[t].side == side && !teams[t].isGone()) {
                    left++;
                }
            }
            return left;
        }

        int missedOrders() {
            int missed = 0;
            for (int t = 0; t < teamCount; t++) {
                missed += teams[t].missed;
            }
            return missed;
        }

        /** The side of the first team that is in the cell, -1 without one. */
        int sideAt(int cell) {
            for (int t = 0; t < teamCount; t++) {
                if (teams[t].cell == cell && !teams[t].isGone()) {
                    return teams[t].side;
                }
            }
            return -1;
        }

        void letHoursGoBy(int hours) {
            for (int i = 0; i < hours; i++) {
                actAll();
                fightAll();
                listenAll();
                grid.spreadSmoke();
                grid.settle();
                buryTeams();
                hour++;
            }
        }

        private void actAll() {
            for (int t = 0; t < teamCount; t++) {
                Team team = teams[t];
                team.beginHour();
                if (team.isGone()) {
                    continue;
                }
                if (seesEnemy(team)) {
                    team.fights = true;
                    team.noise = FIGHT_NOISE;
                } else if (grid.smoke[team.cell] >= CHOKING_SMOKE) {
                    choke(team);
                } else if (team.orderCount > 0) {
                    carryOutFirstOrder(team);
                }
            }
        }

        private boolean seesEnemy(Team team) {
            for (int t = 0; t < teamCount; t++) {
                Team other = teams[t];
                if (other.side != team.side && !other.isGone() && team.isNear(other.cell)) {
                    return true;
                }
            }
            return false;
        }

        private void choke(Team team) {
            team.noise = FLEE_NOISE;
            team.loseHealth(1);
            if (team.isGone()) {
                return;
            }
            int best = team.cell;
            for (int direction = 0; direction < DIRECTIONS; direction++) {
                int near = neighbour(team.cell, direction);
                if (near >= 0 && grid.isTunnel(near) && grid.smoke[near] < grid.smoke[best]) {
                    best = near;
                }
            }
            team.cell = best;
        }

        private void carryOutFirstOrder(Team team) {
            int kind = team.firstKind();
            if (kind < 0 || kind >= KINDS) {
                return;
            }
            team.noise = NOISES[kind];
            switch (kind) {
                case DIG:
                    dig(team);
                    break;
                case GO:
                    goOn(team);
                    break;
                case PROP:
                    prop(team);
                    break;
                case LISTEN:
                    team.listened = true;
                    team.countFirstOrder();
                    break;
                case SMOKE:
                    grid.smoke[team.cell] = FULL_SMOKE;
                    team.countFirstOrder();
                    break;
                case FIRE:
                    grid.setFire(team.cell);
                    team.countFirstOrder();
                    break;
                default:
                    team.countFirstOrder();
                    break;
            }
        }

        private void dig(Team team) {
            int next = neighbour(team.cell, team.firstDirection());
            if (next < 0 || grid.isRock(next)) {
                team.missFirstOrder();
                return;
            }
            if (!grid.isTunnel(next)) {
                grid.work[next] += team.skill;
                if (grid.workLeft(next) > 0) {
                    return;
                }
                grid.openTunnel(next);
            }
            team.cell = next;
            team.countFirstOrder();
        }

        private void goOn(Team team) {
            int next = neighbour(team.cell, team.firstDirection());
            if (next < 0 || !grid.isTunnel(next)) {
                team.missFirstOrder();
                return;
            }
            team.cell = next;
            team.countFirstOrder();
        }

        private void prop(Team team) {
            if (grid.props[team.cell] >= MOST_PROPS) {
                team.missFirstOrder();
                return;
            }
            grid.props[team.cell]++;
            team.countFirstOrder();
        }

        /** All losses are counted before one is taken, as all fight at once. */
        private void fightAll() {
            for (int t = 0; t < teamCount; t++) {
                if (teams[t].fights) {
                    teams[t].loss = Math.min(MOST_LOSS, fightingEnemies(teams[t]));
                }
            }
            for (int t = 0; t < teamCount; t++) {
                teams[t].loseHealth(teams[t].loss);
            }
        }

        private int fightingEnemies(Team team) {
            int enemies = 0;
            for (int t = 0; t < teamCount; t++) {
                Team other = teams[t];
                if (other.side != team.side && other.fights && team.isNear(other.cell)) {
                    enemies++;
                }
            }
            return enemies;
        }

        private void listenAll() {
            for (int t = 0; t < teamCount; t++) {
                if (teams[t].listened && !teams[t].isGone()) {
                    listen(teams[t]);
                }
            }
        }

        private void listen(Team team) {
            int loudest = 0;
            int from = -1;
            for (int t = 0; t < teamCount; t++) {
                Team other = teams[t];
                int loudness = 2 * other.noise + 3 - distance(team.cell, other.cell);
                if (other.side != team.side && other.noise > 0 && loudness > loudest) {
                    loudest = loudness;
                    from = other.cell;
                }
            }
            if (from >= 0) {
                team.remember(hour, directionTo(team.cell, from), loudest);
            }
        }

        private static int directionTo(int here, int there) {
            int right = there % SIZE - here % SIZE;
            int down = there / SIZE - here / SIZE;
            if (Math.abs(down) >= Math.abs(right)) {
                return down > 0 ? 2 : 0;
            }
            return right > 0 ? 1 : 3;
        }

        private void buryTeams() {
            for (int t = 0; t < teamCount; t++) {
                if (grid.fellIn[teams[t].cell] != 0) {
                    teams[t].health = 0;
                }
            }
        }
    }

    /** How far it is from one cell to all others, by tunnels alone or with digging. */
    private static final class Ways {
        static final int NO_DIGGING = 0;
        private static final int BLOCKED = -1;
        /** -1 where no way leads. */
        final int[] hoursTo = new int[CELLS];
        private final boolean[] settled = new boolean[CELLS];

        void searchFrom(Grid grid, int start, int skill) {
            for (int cell = 0; cell < CELLS; cell++) {
                hoursTo[cell] = cell == start ? 0 : -1;
                settled[cell] = false;
            }
            for (int i = 0; i < CELLS; i++) {
                int cell = nearestUnsettled();
                if (cell < 0) {
                    return;
                }
                settled[cell] = true;
                stepOnFrom(grid, cell, skill);
            }
        }

        private int nearestUnsettled() {
            int best = -1;
            for (int cell = 0; cell < CELLS; cell++) {
                if (!settled[cell] && hoursTo[cell] >= 0 && (best < 0 || hoursTo[cell] < hoursTo[best])) {
                    best = cell;
                }
            }
            return best;
        }

        private void stepOnFrom(Grid grid, int cell, int skill) {
            for (int direction = 0; direction < DIRECTIONS; direction++) {
                int near = neighbour(cell, direction);
                if (near < 0) {
                    continue;
                }
                int hours = hoursInto(grid, near, skill);
                if (hours != BLOCKED && (hoursTo[near] < 0 || hoursTo[cell] + hours < hoursTo[near])) {
                    hoursTo[near] = hoursTo[cell] + hours;
                }
            }
        }

        private static int hoursInto(Grid grid, int cell, int skill) {
            if (grid.isTunnel(cell)) {
                return 1;
            }
            if (grid.isRock(cell) || skill <= NO_DIGGING) {
                return BLOCKED;
            }
            return (grid.workLeft(cell) + skill - 1) / skill;
        }

        /** Of the cells under a standing wall the nearest one, the least of several; -1 without one. */
        int nearestWall(Grid grid) {
            int best = -1;
            for (int cell = 0; cell < CELLS; cell++) {
                if (grid.wall[cell] > 0 && hoursTo[cell] >= 0
                        && (best < 0 || hoursTo[cell] < hoursTo[best])) {
                    best = cell;
                }
            }
            return best;
        }
    }
}
