/**
 * Pictures thrown onto a building: a front of columns, a square before it, projectors on masts,
 * the light that they give together, the sets of them that cover, breaches, frames and scenes.
 * The document's promises say what each call answers.
 */
public final class FacadeShow {
    public static final int NONE = -1;
    public static final int STONE = 0, BRICK = 1, GLASS = 2;
    public static final int EMPTY = 0, TREE = 1, PEOPLE = 2, NEST = 3;

    private static final int COLUMNS = 16;
    private static final int ALL_COLUMNS = 65535;
    private static final int ROWS = 12;
    private static final int FIRST_OPEN_ROW = 3;
    private static final int MOST_RELIEF = 2;
    private static final int MOST_AIMED_FURTHER = 7;
    private static final int MOST_PROJECTORS = 10;
    private static final int MOST_POWER = 9999;
    private static final int PHASES = 3;
    private static final int MOST_BORNE = 99999;
    private static final int MOST_FOCUS = 11;
    private static final int MOST_WIND = 8;
    private static final int STILL_WIND = 3;
    private static final int MOST_LEVEL = 9999;
    private static final int DAY = 1440;
    private static final int LAST_MINUTE = 99999;
    private static final int LAST_FRAME = 99999;
    private static final int SCENES = 4;
    private static final int LAST_VERSION = 999;

    private final Square square;
    private final Projector[] placed;
    private int projectorCount;
    private final int[] borne;
    private int windNow;
    private int needed;
    private int levelNow;
    private final Survey survey;
    private int curfewFrom;
    private int curfewTo;
    private final Scene[] scenes;
    private int frameNow;
    private int heldCount;
    private long breachCount;
    private long energy;
    private int minuteNow;

    public FacadeShow() {
        square = new Square();
        placed = new Projector[MOST_PROJECTORS];
        projectorCount = 0;
        borne = new int[] {9999, 9999, 9999};
        windNow = 0;
        needed = 0;
        levelNow = 100;
        survey = new Survey();
        curfewFrom = 0;
        curfewTo = 0;
        scenes = new Scene[] {new Scene(), new Scene(), new Scene(), new Scene()};
        frameNow = 0;
        heldCount = 0;
        breachCount = 0;
        energy = 0;
        minuteNow = 0;
    }

    // ---- front and square

    public void column(int column, int relief, int surface)
            throws IndexOutOfBoundsException, IllegalArgumentException {
        if (!isColumn(column)) {
            throw new IndexOutOfBoundsException("no such column");
        }
        if (relief < 0 || relief > MOST_RELIEF) {
            throw new IllegalArgumentException("relief is out of range");
        }
        if (surface < STONE || surface > GLASS) {
            throw new IllegalArgumentException("surface is out of range");
        }
        square.build(column, relief, surface);
    }

    public int cell(int column, int row, int what)
            throws IndexOutOfBoundsException, IllegalArgumentException, IllegalStateException {
        if (!isColumn(column) || !isOpenRow(row)) {
            throw new IndexOutOfBoundsException("no such cell");
        }
        if (what < EMPTY || what > NEST) {
            throw new IllegalArgumentException("what is out of range");
        }
        int before = square.contentOf(column, row);
        if (before == Square.MAST) {
            throw new IllegalStateException("the cell has a mast");
        }
        square.put(column, row, what);
        return before;
    }

    public void need(int columns, int level) throws IllegalArgumentException {
        if (columns < 0 || columns > ALL_COLUMNS) {
            throw new IllegalArgumentException("columns is out of range");
        }
        if (level < 1 || level > MOST_LEVEL) {
            throw new IllegalArgumentException("level is out of range");
        }
        needed = columns;
        levelNow = level;
    }

    // ---- projectors

    public int projector(int column, int row, int power, int phase, int focus)
            throws IndexOutOfBoundsException, IllegalArgumentException, IllegalStateException {
        if (!isColumn(column) || !isOpenRow(row)) {
            throw new IndexOutOfBoundsException("no such cell");
        }
        if (power < 1 || power > MOST_POWER) {
            throw new IllegalArgumentException("power is out of range");
        }
        if (!isPhase(phase)) {
            throw new IllegalArgumentException("phase is out of range");
        }
        if (focus < 1 || focus > MOST_FOCUS) {
            throw new IllegalArgumentException("focus is out of range");
        }
        if (square.contentOf(column, row) != EMPTY) {
            throw new IllegalStateException("the cell is not empty");
        }
        int number = projectorCount;
        if (number < 0 || number >= placed.length) {
            throw new IllegalStateException("there are as many projectors as there may be");
        }
        square.put(column, row, Square.MAST);
        placed[number] = new Projector(column, row, power, phase, focus);
        projectorCount = number + 1;
        return number;
    }

    public void aim(int projector, int from, int to) throws IndexOutOfBoundsException, IllegalArgumentException {
        Projector aimed = find(projector);
        if (aimed == null) {
            throw new IndexOutOfBoundsException("no such projector");
        }
        if (!isColumn(from) || !isColumn(to)) {
            throw new IndexOutOfBoundsException("no such column");
        }
        if (to < from || to > from + MOST_AIMED_FURTHER) {
            throw new IllegalArgumentException("to is below from, or too far");
        }
        aimed.from = from;
        aimed.to = to;
    }

    public boolean turn(int projector, boolean isOn) throws IndexOutOfBoundsException, IllegalStateException {
        Projector turned = find(projector);
        if (turned == null) {
            throw new IndexOutOfBoundsException("no such projector");
        }
        boolean wasOn = turned.isOn;
        if (isOn && !wasOn && loadOf(turned.phase) + turned.power > borneBy(turned.phase)) {
            throw new IllegalStateException("its phase would bear more than it may");
        }
        turned.isOn = isOn;
        return wasOn;
    }

    public boolean fail(int projector, boolean hasFailed) throws IndexOutOfBoundsException {
        Projector told = find(projector);
        if (told == null) {
            throw new IndexOutOfBoundsException("no such projector");
        }
        boolean before = told.hasFailed;
        told.hasFailed = hasFailed;
        return before;
    }

    public int phase(int phase, int power) throws IllegalArgumentException {
        if (!isPhase(phase)) {
            throw new IllegalArgumentException("phase is out of range");
        }
        if (power < 0 || power > MOST_BORNE) {
            throw new IllegalArgumentException("power is out of range");
        }
        int before = borne[phase];
        borne[phase] = power;
        return before;
    }

    public int wind(int wind) throws IllegalArgumentException {
        if (wind < 0 || wind > MOST_WIND) {
            throw new IllegalArgumentException("wind is out of range");
        }
        int before = windNow;
        windNow = wind;
        return before;
    }

    public int through(int projector, int column, int row) throws IndexOutOfBoundsException {
        Projector source = find(projector);
        if (source == null) {
            throw new IndexOutOfBoundsException("no such projector");
        }
        if (!isColumn(column)) {
            throw new IndexOutOfBoundsException("no such column");
        }
        if (row < 0 || row >= ROWS) {
            throw new IndexOutOfBoundsException("no such row");
        }
        return crossing(source, column, row);
    }

    public int gives(int projector, int column) throws IndexOutOfBoundsException {
        Projector source = find(projector);
        if (source == null) {
            throw new IndexOutOfBoundsException("no such projector");
        }
        if (!isColumn(column)) {
            throw new IndexOutOfBoundsException("no such column");
        }
        return lightFrom(source, column);
    }

    public boolean isSharp(int projector, int column) throws IndexOutOfBoundsException {
        Projector source = find(projector);
        if (source == null) {
            throw new IndexOutOfBoundsException("no such projector");
        }
        if (!isColumn(column)) {
            throw new IndexOutOfBoundsException("no such column");
        }
        return isInFocus(source, column);
    }

    public int light(int column) throws IndexOutOfBoundsException {
        if (!isColumn(column)) {
            throw new IndexOutOfBoundsException("no such column");
        }
        return lightOf(column);
    }

    public int blended(int projector, int column) throws IndexOutOfBoundsException {
        Projector source = find(projector);
        if (source == null) {
            throw new IndexOutOfBoundsException("no such projector");
        }
        if (!isColumn(column)) {
            throw new IndexOutOfBoundsException("no such column");
        }
        if (!source.shines()) {
            return 0;
        }
        int own = lightFrom(source, column);
        int all = lightOf(column);
        if (all <= 0 || all <= levelNow) {
            return own;
        }
        // the product of a light and a level may be too great for an int
        return (int) ((long) own * levelNow / all);
    }

    // ---- covers

    public int covered(int projectors) throws IllegalArgumentException {
        if (!isSetOfProjectors(projectors)) {
            throw new IllegalArgumentException("projectors has others");
        }
        surveyLights();
        int columns = 0;
        for (int column = 0; column < COLUMNS; column++) {
            if (survey.isWellCovered(column, projectors, levelNow)) {
                columns |= 1 << column;
            }
        }
        return columns;
    }

    public int least() {
        surveyLights();
        int usable = unfailedProjectors();
        int best = NONE;
        int fewest = projectorCount + 1;
        // upwards and only by fewer: so the least number stays among sets of alike many
        for (int set = 0; set <= usable; set++) {
            int size = Integer.bitCount(set);
            if ((set & ~usable) == 0 && size < fewest && survey.coversAll(needed, set, levelNow)) {
                best = set;
                fewest = size;
            }
        }
        return best;
    }

    public int leastAnew() {
        surveyLights();
        int usable = unfailedProjectors();
        for (int size = 0; size <= projectorCount; size++) {
            for (int set = 0; set <= usable; set++) {
                if ((set & ~usable) == 0 && Integer.bitCount(set) == size
                        && survey.coversAll(needed, set, levelNow)) {
                    return size;
                }
            }
        }
        return NONE;
    }

    public boolean bears(int projectors) throws IllegalArgumentException {
        if (!isSetOfProjectors(projectors)) {
            throw new IllegalArgumentException("projectors has others");
        }
        surveyLights();
        boolean isBorne = survey.coversAll(needed, projectors, levelNow);
        for (int number = 0; isBorne && number < MOST_PROJECTORS; number++) {
            int bit = 1 << number;
            if ((projectors & bit) != 0) {
                isBorne = survey.coversAll(needed, projectors & ~bit, levelNow);
            }
        }
        return isBorne;
    }

    // ---- breaches, frames, scenes

    public int breaches() {
        int sum = 0;
        for (int number = 0; number < MOST_PROJECTORS; number++) {
            Projector source = find(number);
            if (source != null && source.shines()) {
                sum += breachesBy(source);
            }
        }
        return sum;
    }

    public void curfew(int from, int to) throws IllegalArgumentException {
        if (from < 0 || from >= DAY) {
            throw new IllegalArgumentException("from is out of range");
        }
        if (to < from || to > DAY) {
            throw new IllegalArgumentException("to is out of range");
        }
        curfewFrom = from;
        curfewTo = to;
    }

    public int ready(int projector, int frame) throws IndexOutOfBoundsException, IllegalArgumentException {
        Projector told = find(projector);
        if (told == null) {
            throw new IndexOutOfBoundsException("no such projector");
        }
        if (frame < 0 || frame > LAST_FRAME) {
            throw new IllegalArgumentException("frame is out of range");
        }
        int before = told.readyUpTo;
        told.readyUpTo = frame;
        return before;
    }

    public int propose(int scene, int version) throws IndexOutOfBoundsException, IllegalArgumentException {
        Scene changed = findScene(scene);
        if (changed == null) {
            throw new IndexOutOfBoundsException("no such scene");
        }
        if (version < 0 || version > LAST_VERSION) {
            throw new IllegalArgumentException("version is out of range");
        }
        int before = changed.proposed;
        changed.proposed = version;
        return before;
    }

    public int answer(int scene, boolean isTaken) throws IndexOutOfBoundsException, IllegalStateException {
        Scene answered = findScene(scene);
        if (answered == null) {
            throw new IndexOutOfBoundsException("no such scene");
        }
        if (answered.proposed == NONE) {
            throw new IllegalStateException("nothing is proposed");
        }
        if (isTaken) {
            answered.version = answered.proposed;
        }
        answered.proposed = NONE;
        return answered.version;
    }

    public int scene(int scene, boolean isProposed) throws IndexOutOfBoundsException {
        Scene asked = findScene(scene);
        if (asked == null) {
            throw new IndexOutOfBoundsException("no such scene");
        }
        return isProposed ? asked.proposed : asked.version;
    }

    public long show(int what) throws IllegalArgumentException {
        switch (what) {
            case 0:
                return frameNow;
            case 1:
                return heldCount;
            case 2:
                return breachCount;
            case 3:
                return energy;
            case 4:
                return minuteNow;
            case 5:
                return countOfOn();
            default:
                throw new IllegalArgumentException("what is out of range");
        }
    }

    public int pass(int minutes) throws IllegalArgumentException, IllegalStateException {
        if (minutes < 1 || minutes > DAY) {
            throw new IllegalArgumentException("minutes is out of range");
        }
        if (minutes > LAST_MINUTE - minuteNow) {
            throw new IllegalStateException("the minute would be above the last one");
        }
        // nothing but the frame and the minute changes while time passes
        int breachesEach = breaches();
        int on = countOfOn();
        int powerEach = powerOfOn();
        int lastReady = lastFrameOfAll();
        for (int gone = 0; gone < minutes; gone++) {
            breachCount += breachesEach + (isCurfewNow() ? on : 0);
            energy += powerEach;
            if (frameNow < lastReady) {
                frameNow++;
            } else {
                heldCount++;
            }
            minuteNow++;
        }
        return minuteNow;
    }

    // ---- what is in range

    private static boolean isColumn(int column) {
        return column >= 0 && column < COLUMNS;
    }

    private static boolean isOpenRow(int row) {
        return row >= FIRST_OPEN_ROW && row < ROWS;
    }

    private static boolean isPhase(int phase) {
        return phase >= 0 && phase < PHASES;
    }

    private boolean isSetOfProjectors(int set) {
        return set >= 0 && set < 1 << projectorCount;
    }

    private Projector find(int number) {
        if (number < 0 || number >= projectorCount || number >= placed.length) {
            return null;
        }
        return placed[number];
    }

    private Scene findScene(int number) {
        if (number < 0 || number >= SCENES || number >= scenes.length) {
            return null;
        }
        return scenes[number];
    }

    // ---- sums over the projectors that are on, failed or not

    private int loadOf(int phase) {
        int sum = 0;
        for (int number = 0; number < MOST_PROJECTORS; number++) {
            Projector one = find(number);
            if (one != null && one.isOn && one.phase == phase) {
                sum += one.power;
            }
        }
        return sum;
    }

    private int borneBy(int phase) {
        return isPhase(phase) ? borne[phase] : 0;
    }

    private int powerOfOn() {
        return loadOf(0) + loadOf(1) + loadOf(2);
    }

    private int countOfOn() {
        int sum = 0;
        for (int number = 0; number < MOST_PROJECTORS; number++) {
            Projector one = find(number);
            if (one != null && one.isOn) {
                sum++;
            }
        }
        return sum;
    }

    // ---- rays

    private int crossing(Projector source, int column, int row) {
        int end = square.reliefOf(column);
        int rows = source.row - end;
        if (rows < 1 || row <= end || row >= source.row) {
            return NONE;
        }
        int rowsGone = source.row - row;
        int placeTimesRows = source.column * rows + (column - source.column) * rowsGone;
        // half a column more before it is rounded down: so a half goes to the greater number
        return (2 * placeTimesRows + rows) / (2 * rows);
    }

    private boolean isBlocked(Projector source, int column) {
        for (int row = square.reliefOf(column) + 1; row < source.row; row++) {
            if (square.stopsRays(crossing(source, column, row), row)) {
                return true;
            }
        }
        return false;
    }

    private boolean meetsTheLiving(Projector source, int column) {
        for (int row = FIRST_OPEN_ROW; row < source.row; row++) {
            if (square.hasTheLiving(crossing(source, column, row), row)) {
                return true;
            }
        }
        return false;
    }

    private boolean isAimedAt(Projector source, int column) {
        if (source.from == NONE) {
            return false;
        }
        int shift = windNow > STILL_WIND ? windNow - STILL_WIND : 0;
        return column >= source.from + shift && column <= source.to + shift;
    }

    private int breachesBy(Projector source) {
        int sum = 0;
        for (int column = 0; column < COLUMNS; column++) {
            if (isAimedAt(source, column) && meetsTheLiving(source, column) && !isBlocked(source, column)) {
                sum++;
            }
        }
        return sum;
    }

    // ---- light

    private int lightFrom(Projector source, int column) {
        if (!isAimedAt(source, column) || isBlocked(source, column)) {
            return 0;
        }
        int across = column - source.column;
        int ahead = source.row - square.reliefOf(column);
        int squares = across * across + ahead * ahead;
        if (squares < 1) {
            return 0;
        }
        return 100 * source.power / squares * square.hundredthsOf(column) / 100;
    }

    private boolean isInFocus(Projector source, int column) {
        int beyond = source.row - square.reliefOf(column) - source.focus;
        return beyond >= -1 && beyond <= 1;
    }

    private int lightOf(int column) {
        int sum = 0;
        for (int number = 0; number < MOST_PROJECTORS; number++) {
            Projector source = find(number);
            if (source != null && source.shines()) {
                sum += lightFrom(source, column);
            }
        }
        return sum;
    }

    // ---- sets of projectors

    private int unfailedProjectors() {
        int set = 0;
        for (int number = 0; number < MOST_PROJECTORS; number++) {
            Projector one = find(number);
            if (one != null && !one.hasFailed) {
                set |= 1 << number;
            }
        }
        return set;
    }

    private void surveyLights() {
        for (int column = 0; column < COLUMNS; column++) {
            for (int number = 0; number < MOST_PROJECTORS; number++) {
                Projector source = find(number);
                if (source == null || source.hasFailed) {
                    survey.note(column, number, 0, true);
                } else {
                    survey.note(column, number, lightFrom(source, column), isInFocus(source, column));
                }
            }
        }
    }

    // ---- time

    private boolean isCurfewNow() {
        int minuteOfDay = minuteNow % DAY;
        return minuteOfDay >= curfewFrom && minuteOfDay < curfewTo;
    }

    /** The last frame that the machines of all that shine are ready for; NONE if none shines. */
    private int lastFrameOfAll() {
        int last = NONE;
        for (int number = 0; number < MOST_PROJECTORS; number++) {
            Projector one = find(number);
            if (one != null && one.shines() && (last == NONE || one.readyUpTo < last)) {
                last = one.readyUpTo;
            }
        }
        return last;
    }

    /** The front and the cells before it. */
    private static final class Square {
        /** What a cell holds beside the document's own: so a cell with a mast is never EMPTY. */
        private static final int MAST = 4;

        private final int[] reliefs;
        private final int[] surfaces;
        private final int[] contents;

        private Square() {
            reliefs = new int[COLUMNS];
            surfaces = new int[COLUMNS];
            contents = new int[COLUMNS * ROWS];
        }

        private void build(int column, int relief, int surface) {
            if (isColumn(column)) {
                reliefs[column] = relief;
                surfaces[column] = surface;
            }
        }

        private int reliefOf(int column) {
            return isColumn(column) ? reliefs[column] : 0;
        }

        private int hundredthsOf(int column) {
            int surface = isColumn(column) ? surfaces[column] : GLASS;
            return surface == STONE ? 60 : surface == BRICK ? 40 : 0;
        }

        private static boolean isCell(int column, int row) {
            return column >= 0 && column < COLUMNS && row >= 0 && row < ROWS;
        }

        private void put(int column, int row, int what) {
            if (isCell(column, row)) {
                contents[column * ROWS + row] = what;
            }
        }

        private int contentOf(int column, int row) {
            return isCell(column, row) ? contents[column * ROWS + row] : EMPTY;
        }

        private boolean stopsRays(int column, int row) {
            int what = contentOf(column, row);
            return row < reliefOf(column) || what == TREE || what == MAST;
        }

        private boolean hasTheLiving(int column, int row) {
            int what = contentOf(column, row);
            return what == PEOPLE || what == NEST;
        }
    }

    /** A projector on its mast; from is NONE as long as it covers no columns. */
    private static final class Projector {
        private final int column;
        private final int row;
        private final int power;
        private final int phase;
        private final int focus;
        private int from;
        private int to;
        private boolean isOn;
        private boolean hasFailed;
        private int readyUpTo;

        private Projector(int column, int row, int power, int phase, int focus) {
            this.column = column;
            this.row = row;
            this.power = power;
            this.phase = phase;
            this.focus = focus;
            from = NONE;
            to = NONE;
        }

        private boolean shines() {
            return isOn && !hasFailed;
        }
    }

    /** What each projector gives to each column, noted once a call, before many sets are tried. */
    private static final class Survey {
        private final int[] lights;
        private final int[] blurring;

        private Survey() {
            lights = new int[COLUMNS * MOST_PROJECTORS];
            blurring = new int[COLUMNS];
        }

        private static boolean isPlace(int column, int number) {
            return isColumn(column) && number >= 0 && number < MOST_PROJECTORS;
        }

        private void note(int column, int number, int light, boolean isInFocus) {
            if (isPlace(column, number)) {
                int bit = 1 << number;
                lights[column * MOST_PROJECTORS + number] = light;
                boolean isBlurring = light > 0 && !isInFocus;
                blurring[column] = isBlurring ? blurring[column] | bit : blurring[column] & ~bit;
            }
        }

        private boolean isWellCovered(int column, int set, int level) {
            if (!isColumn(column) || (blurring[column] & set) != 0) {
                return false;
            }
            int sum = 0;
            for (int number = 0; number < MOST_PROJECTORS; number++) {
                if ((set >> number & 1) != 0) {
                    sum += lights[column * MOST_PROJECTORS + number];
                }
            }
            return sum >= level;
        }

        private boolean coversAll(int columns, int set, int level) {
            for (int column = 0; column < COLUMNS; column++) {
                if ((columns >> column & 1) != 0 && !isWellCovered(column, set, level)) {
                    return false;
                }
            }
            return true;
        }
    }

    /** A scene; proposed is NONE as long as nothing is. */
    private static final class Scene {
        private int version;
        private int proposed;

        private Scene() {
            version = 0;
            proposed = NONE;
        }
    }
}
