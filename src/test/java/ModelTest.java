import java.util.Random;

/** All promises: runs of calls chosen by fixed seeds, in and out of range, each held against the model. */
final class ModelTest {
    private static final Check CHECK = new Check("ModelTest");
    private static final long NO_SUCH = -1001;
    private static final long BAD_ARGUMENT = -1002;
    private static final long BAD_STATE = -1003;
    private static final int RUNS = 1200;
    private static final int CALLS = 512;

    private final Random random;
    private final FacadeShow show = new FacadeShow();
    private final Model model = new Model();
    private final StringBuilder told = new StringBuilder();

    private ModelTest(long seed) {
        random = new Random(seed);
    }

    public static void main(String[] args) {
        int wrong = 0;
        for (int run = 0; run < RUNS && wrong < 3; run++) {
            wrong += new ModelTest(run).isRight(run) ? 0 : 1;
        }
        CHECK.end();
    }

    private boolean isRight(int run) {
        for (int call = 0; call < CALLS; call++) {
            told.setLength(0);
            int kind = call < 12 ? random.nextInt(8) : random.nextInt(32);
            long[] answers = kind < 8 ? build(kind) : kind < 16 ? set(kind) : kind < 26 ? ask(kind) : live(kind);
            CHECK.due("run " + run + " call " + call + ": " + told, answers[0], answers[1]);
            if (answers[0] != answers[1]) {
                return false;
            }
        }
        return true;
    }

    private static long outcome(Check.Call call) {
        try {
            return call.answer();
        } catch (RuntimeException thrown) {
            if (thrown.getClass() == IndexOutOfBoundsException.class) {
                return NO_SUCH;
            } else if (thrown.getClass() == IllegalArgumentException.class) {
                return BAD_ARGUMENT;
            } else if (thrown.getClass() == IllegalStateException.class) {
                return BAD_STATE;
            }
            throw thrown;
        }
    }

    /** A number from low to high, now and then one beyond an end, or far off. */
    private int some(int low, int high) {
        int chance = random.nextInt(200);
        int number = low + random.nextInt(high - low + 1);
        if (chance == 0) {
            number = low - 1;
        } else if (chance == 1) {
            number = high + 1;
        } else if (chance == 2) {
            number = random.nextInt();
        } else if (chance < 10) {
            number = chance % 2 == 0 ? low : high;
        }
        told.append(' ').append(number);
        return number;
    }

    private int someProjector() {
        return some(0, Math.max(model.count - 1, 0));
    }

    /** Mostly columns that some set covers well by now, so that there are least sets of several projectors. */
    private int someColumns() {
        int chance = random.nextInt(6);
        if (chance == 0) {
            return some(0, 65535);
        }
        int columns = 0;
        for (int tries = 0; tries < chance; tries++) {
            columns |= model.covered(random.nextInt(1 << model.count));
        }
        return columns & (random.nextInt(65536) | 1 << random.nextInt(16));
    }

    /** A column, mostly one of those that the projector is aimed at. */
    private int someColumnOf(int p) {
        if (!isProjector(p) || model.from[p] > model.to[p] || random.nextInt(4) == 0) {
            return some(0, 15);
        }
        int shift = model.wind > 3 ? model.wind - 3 : 0;
        return some(model.from[p] + shift, model.to[p] + shift);
    }

    private int someSet() {
        return some(0, (1 << model.count) - 1);
    }

    private boolean isProjector(int p) {
        return p >= 0 && p < model.count;
    }

    private static boolean in(int number, int low, int high) {
        return number >= low && number <= high;
    }

    private long[] build(int kind) {
        switch (kind) {
            case 0: return column(some(0, 15), some(0, 2), random.nextInt(6) == 0 ? 2 : some(0, 2));
            case 1: case 2: return cell(some(0, 15), some(3, 11), random.nextInt(3) == 0 ? 0 : some(0, 3));
            case 3: return need(someColumns(), random.nextInt(5) == 0 ? some(1, 9999) : some(1, 300));
            case 4: case 5: return projector(some(0, 15), some(3, 11),
                    random.nextInt(2) == 0 ? some(1, 9999) : some(1, 400), some(0, 2));
            default: return aim(someProjector(), some(0, 15), some(0, 7));
        }
    }

    private long[] column(int c, int relief, int surface) {
        told.append(" column ").append(surface);
        long got = outcome(() -> { show.column(c, relief, surface); return 0; });
        long want = !in(c, 0, 15) ? NO_SUCH : !in(relief, 0, 2) || !in(surface, 0, 2) ? BAD_ARGUMENT : 0;
        if (want == 0) {
            model.relief[c] = relief;
            model.surface[c] = surface;
        }
        return new long[] {got, want};
    }

    private long[] cell(int c, int r, int what) {
        told.append(" cell ").append(what);
        long got = outcome(() -> show.cell(c, r, what));
        long want = !in(c, 0, 15) || !in(r, 3, 11) ? NO_SUCH : !in(what, 0, 3) ? BAD_ARGUMENT
                : model.mast[c][r] ? BAD_STATE : model.cells[c][r];
        if (want >= 0) {
            model.cells[c][r] = what;
        }
        return new long[] {got, want};
    }

    private long[] need(int columns, int level) {
        told.append(" need ").append(columns);
        long got = outcome(() -> { show.need(columns, level); return 0; });
        long want = !in(columns, 0, 65535) || !in(level, 1, 9999) ? BAD_ARGUMENT : 0;
        if (want == 0) {
            model.needed = columns;
            model.level = level;
        }
        return new long[] {got, want};
    }

    private long[] projector(int c, int r, int power, int phase) {
        int focus = random.nextInt(3) == 0 ? some(1, 11) : Math.max(1, Math.min(11, r - random.nextInt(3)));
        told.append(" projector ").append(focus);
        long got = outcome(() -> show.projector(c, r, power, phase, focus));
        long want = !in(c, 0, 15) || !in(r, 3, 11) ? NO_SUCH
                : !in(power, 1, 9999) || !in(phase, 0, 2) || !in(focus, 1, 11) ? BAD_ARGUMENT
                : model.mast[c][r] || model.cells[c][r] != 0 || model.count == 10 ? BAD_STATE
                : model.setUp(c, r, power, phase, focus);
        return new long[] {got, want};
    }

    private long[] aim(int p, int from, int further) {
        int to = random.nextInt(10) == 0 ? some(0, 15) : random.nextInt(20) == 0 ? from + further : Math.min(15, from + further);
        told.append(" aim to ").append(to);
        long got = outcome(() -> { show.aim(p, from, to); return 0; });
        long want = !isProjector(p) || !in(from, 0, 15) || !in(to, 0, 15) ? NO_SUCH
                : !in(to, from, from + 7) ? BAD_ARGUMENT : 0;
        if (want == 0) {
            model.from[p] = from;
            model.to[p] = to;
        }
        return new long[] {got, want};
    }

    private long[] set(int kind) {
        switch (kind) {
            case 8: case 9: case 10: return turn(someProjector(), random.nextInt(4) != 0);
            case 11: return fail(someProjector(), random.nextInt(3) == 0);
            case 12: return phase(some(0, 2), random.nextInt(2) == 0 ? some(0, 99999) : some(0, 10000));
            case 13: return wind(some(0, 8));
            case 14: return curfew(some(0, 1439), some(0, 1440));
            default: return ready(someProjector(), random.nextInt(4) == 0 ? some(0, 99999) : some(0, 200));
        }
    }

    private long[] turn(int p, boolean isOn) {
        told.append(" turn ").append(isOn);
        long got = outcome(() -> show.turn(p, isOn) ? 1 : 0);
        long want;
        if (!isProjector(p)) {
            want = NO_SUCH;
        } else if (isOn && !model.on[p] && model.loadOf(model.phase[p]) + model.power[p] > model.bears[model.phase[p]]) {
            want = BAD_STATE;
        } else {
            want = model.on[p] ? 1 : 0;
            model.on[p] = isOn;
        }
        return new long[] {got, want};
    }

    private long[] fail(int p, boolean hasFailed) {
        told.append(" fail ").append(hasFailed);
        long got = outcome(() -> show.fail(p, hasFailed) ? 1 : 0);
        long want = !isProjector(p) ? NO_SUCH : model.failed[p] ? 1 : 0;
        if (want >= 0) {
            model.failed[p] = hasFailed;
        }
        return new long[] {got, want};
    }

    private long[] phase(int phase, int power) {
        told.append(" phase");
        long got = outcome(() -> show.phase(phase, power));
        long want = !in(phase, 0, 2) || !in(power, 0, 99999) ? BAD_ARGUMENT : model.bears[phase];
        if (want >= 0) {
            model.bears[phase] = power;
        }
        return new long[] {got, want};
    }

    private long[] wind(int wind) {
        told.append(" wind");
        long got = outcome(() -> show.wind(wind));
        long want = !in(wind, 0, 8) ? BAD_ARGUMENT : model.wind;
        if (want >= 0) {
            model.wind = wind;
        }
        return new long[] {got, want};
    }

    private long[] curfew(int from, int to) {
        told.append(" curfew");
        long got = outcome(() -> { show.curfew(from, to); return 0; });
        long want = !in(from, 0, 1439) || !in(to, from, 1440) ? BAD_ARGUMENT : 0;
        if (want == 0) {
            model.curfewFrom = from;
            model.curfewTo = to;
        }
        return new long[] {got, want};
    }

    private long[] ready(int p, int frame) {
        told.append(" ready");
        long got = outcome(() -> show.ready(p, frame));
        long want = !isProjector(p) ? NO_SUCH : !in(frame, 0, 99999) ? BAD_ARGUMENT : model.ready[p];
        if (want >= 0) {
            model.ready[p] = frame;
        }
        return new long[] {got, want};
    }

    private long[] ask(int kind) {
        switch (kind) {
            case 16: return through(someProjector(), some(0, 15), some(0, 11));
            case 17: return givesSomewhere(someProjector());
            case 18: return isSharp(someProjector(), some(0, 15));
            case 19: return light(some(0, 15));
            case 20: return blendedSomewhere(someProjector());
            case 21: return covered(someSet());
            case 22: return least();
            case 23: return leastAnew();
            case 24: return bears(someSet());
            default: return breaches();
        }
    }

    private long[] through(int p, int c, int r) {
        told.append(" through");
        long want = !isProjector(p) || !in(c, 0, 15) || !in(r, 0, 11) ? NO_SUCH : model.through(p, c, r);
        return new long[] {outcome(() -> show.through(p, c, r)), want};
    }

    private long[] givesSomewhere(int p) {
        return gives(p, someColumnOf(p));
    }

    private long[] blendedSomewhere(int p) {
        return blended(p, someColumnOf(p));
    }

    private long[] gives(int p, int c) {
        told.append(" gives");
        long want = !isProjector(p) || !in(c, 0, 15) ? NO_SUCH : model.gives(p, c);
        return new long[] {outcome(() -> show.gives(p, c)), want};
    }

    private long[] isSharp(int p, int c) {
        told.append(" isSharp");
        long want = !isProjector(p) || !in(c, 0, 15) ? NO_SUCH : model.isSharp(p, c) ? 1 : 0;
        return new long[] {outcome(() -> show.isSharp(p, c) ? 1 : 0), want};
    }

    private long[] light(int c) {
        told.append(" light");
        return new long[] {outcome(() -> show.light(c)), !in(c, 0, 15) ? NO_SUCH : model.light(c)};
    }

    private long[] blended(int p, int c) {
        told.append(" blended");
        long want = !isProjector(p) || !in(c, 0, 15) ? NO_SUCH : model.blended(p, c);
        return new long[] {outcome(() -> show.blended(p, c)), want};
    }

    private long[] covered(int set) {
        told.append(" covered");
        long want = !in(set, 0, (1 << model.count) - 1) ? BAD_ARGUMENT : model.covered(set);
        return new long[] {outcome(() -> show.covered(set)), want};
    }

    private long[] least() {
        told.append(" least");
        return new long[] {outcome(() -> show.least()), model.least()};
    }

    private long[] leastAnew() {
        told.append(" leastAnew");
        int set = model.least();
        return new long[] {outcome(() -> show.leastAnew()), set < 0 ? -1 : Integer.bitCount(set)};
    }

    private long[] bears(int set) {
        told.append(" bears");
        long want = !in(set, 0, (1 << model.count) - 1) ? BAD_ARGUMENT : model.bears(set) ? 1 : 0;
        return new long[] {outcome(() -> show.bears(set) ? 1 : 0), want};
    }

    private long[] breaches() {
        told.append(" breaches");
        return new long[] {outcome(() -> show.breaches()), model.breaches()};
    }

    private long[] live(int kind) {
        switch (kind) {
            case 26: return propose(some(0, 3), some(0, 999));
            case 27: return answer(some(0, 3), random.nextBoolean());
            case 28: return scene(some(0, 3), random.nextBoolean());
            case 29: return pass(random.nextInt(60) == 0 ? some(1, 1440) : some(1, 30));
            default: return show(some(0, 5));
        }
    }

    private long[] propose(int scene, int version) {
        told.append(" propose");
        long got = outcome(() -> show.propose(scene, version));
        if (!in(scene, 0, 3)) {
            return new long[] {got, NO_SUCH};
        }
        if (!in(version, 0, 999)) {
            return new long[] {got, BAD_ARGUMENT};
        }
        long want = model.proposed[scene];
        model.proposed[scene] = version;
        return new long[] {got, want};
    }

    private long[] answer(int scene, boolean isTaken) {
        told.append(" answer ").append(isTaken);
        long got = outcome(() -> show.answer(scene, isTaken));
        if (!in(scene, 0, 3)) {
            return new long[] {got, NO_SUCH};
        }
        if (model.proposed[scene] < 0) {
            return new long[] {got, BAD_STATE};
        }
        model.version[scene] = isTaken ? model.proposed[scene] : model.version[scene];
        model.proposed[scene] = -1;
        return new long[] {got, model.version[scene]};
    }

    private long[] scene(int scene, boolean isProposed) {
        told.append(" scene ").append(isProposed);
        long got = outcome(() -> show.scene(scene, isProposed));
        long want = !in(scene, 0, 3) ? NO_SUCH : isProposed ? model.proposed[scene] : model.version[scene];
        return new long[] {got, want};
    }

    private long[] pass(int minutes) {
        told.append(" pass");
        long got = outcome(() -> show.pass(minutes));
        if (!in(minutes, 1, 1440)) {
            return new long[] {got, BAD_ARGUMENT};
        }
        if (model.minute + minutes > 99999) {
            return new long[] {got, BAD_STATE};
        }
        for (int gone = 0; gone < minutes; gone++) {
            model.passMinute();
        }
        return new long[] {got, model.minute};
    }

    private long[] show(int what) {
        told.append(" show");
        long[] due = {model.frame, model.held, model.breached, model.energy, model.minute, model.onCount()};
        return new long[] {outcome(() -> show.show(what)), !in(what, 0, 5) ? BAD_ARGUMENT : due[what]};
    }
}
