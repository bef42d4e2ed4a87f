import java.util.ArrayList;
import java.util.List;

/** Every way in which a call is refused; all that can be asked after it is as on an object without that call. */
final class Refusals {
    /** A call on an object. */
    private interface Told {
        long tell(FacadeShow x);
    }

    /** An object in some state. */
    private interface Made {
        FacadeShow make();
    }

    private static final Class<?> NO_SUCH = IndexOutOfBoundsException.class;
    private static final Class<?> BAD_ARGUMENT = IllegalArgumentException.class;
    private static final Class<?> BAD_STATE = IllegalStateException.class;
    private static final int LEAST = Integer.MIN_VALUE;
    private static final int MOST = Integer.MAX_VALUE;

    private final Check check;
    private final Made made;
    private final int projectors;
    private final List<Long> due;

    private Refusals(Check check, Made made, int projectors) {
        this.check = check;
        this.made = made;
        this.projectors = projectors;
        due = answers(made.make());
    }

    static void changeNothing(Check check) {
        Refusals some = new Refusals(check, Refusals::some, 3);
        some.ofTheFront();
        some.ofNewProjectors();
        some.ofProjectors(-1, LEAST, 3, 10, MOST);
        some.ofColumns();
        some.ofAims();
        some.ofPhasesAndWinds();
        some.ofSets();
        some.ofScenes();
        some.ofTime();
        Refusals full = new Refusals(check, Refusals::full, 10);
        full.refused("projector 10", BAD_STATE, x -> x.projector(15, 11, 1, 0, 1));
        full.refused("projector 10 on a mast", BAD_STATE, x -> x.projector(0, 11, 1, 0, 1));
        full.ofProjectors(-1, LEAST, 10, 11, MOST);
        Refusals ended = new Refusals(check, Refusals::ended, 3);
        ended.refused("pass 2", BAD_STATE, x -> x.pass(2));
        ended.refused("pass 1440", BAD_STATE, x -> x.pass(1440));
        ended.refused("pass 1441", BAD_ARGUMENT, x -> x.pass(1441));
    }

    /** Three projectors, of which the last may not be switched on; in the first minute, with something of all. */
    private static FacadeShow some() {
        FacadeShow x = new FacadeShow();
        x.column(4, 2, FacadeShow.BRICK);
        x.column(6, 1, FacadeShow.STONE);
        x.projector(4, 8, 900, 0, 6);
        x.projector(9, 5, 5000, 1, 5);
        x.projector(12, 11, 9000, 1, 9);
        x.aim(0, 2, 6);
        x.aim(1, 5, 9);
        x.aim(2, 9, 12);
        x.turn(0, true);
        x.turn(1, true);
        x.cell(3, 4, FacadeShow.TREE);
        x.cell(5, 5, FacadeShow.PEOPLE);
        x.cell(8, 3, FacadeShow.NEST);
        x.need(0x50, 150);
        x.wind(4);
        x.curfew(2, 4);
        x.ready(0, 3);
        x.ready(1, 5);
        x.propose(0, 7);
        x.answer(0, true);
        x.propose(1, 8);
        x.pass(1);
        return x;
    }

    private static FacadeShow full() {
        FacadeShow x = new FacadeShow();
        for (int number = 0; number < 10; number++) {
            x.projector(number, 11, 300, number % 3, 10);
            x.aim(number, number, number + 3);
        }
        return x;
    }

    private static FacadeShow ended() {
        FacadeShow x = some();
        for (int day = 0; day < 69; day++) {
            x.pass(1440);
        }
        x.pass(637);
        return x;
    }

    private void refused(String what, Class<?> thrown, Told call) {
        FacadeShow x = made.make();
        check.throwing(what, thrown, () -> call.tell(x));
        check.isTrue(what + " changes nothing", answers(x).equals(due));
    }

    private static long outcome(Check.Call call) {
        try {
            return call.answer();
        } catch (IndexOutOfBoundsException thrown) {
            return -1001;
        } catch (IllegalArgumentException thrown) {
            return -1002;
        } catch (IllegalStateException thrown) {
            return -1003;
        }
    }

    /** All that there is to be asked, and then what setting calls tell of before: the object is used up. */
    private List<Long> answers(FacadeShow x) {
        List<Long> all = new ArrayList<>();
        askShowAndScenes(x, all);
        askLight(x, all);
        askSets(x, all);
        for (int minute = 0; minute < 5; minute++) {
            all.add(outcome(() -> x.pass(1)));
            all.add(x.show(0));
            all.add(x.show(2));
        }
        tellAll(x, all);
        askFront(x, all);
        return all;
    }

    private static void askShowAndScenes(FacadeShow x, List<Long> all) {
        for (int what = 0; what <= 5; what++) {
            all.add(x.show(what));
        }
        for (int scene = 0; scene < 4; scene++) {
            all.add((long) x.scene(scene, false));
            all.add((long) x.scene(scene, true));
        }
    }

    private static void askLight(FacadeShow x, List<Long> all) {
        for (int projector = 0; projector <= 10; projector++) {
            int asked = projector;
            all.add(outcome(() -> x.through(asked, 0, 3)));
            all.add(outcome(() -> x.isSharp(asked, 4) ? 1 : 0));
            for (int column = 3; column < 16; column += 3) {
                int seen = column;
                all.add(outcome(() -> x.gives(asked, seen)));
            }
        }
        for (int column = 0; column < 16; column++) {
            all.add((long) x.light(column));
        }
    }

    private void askSets(FacadeShow x, List<Long> all) {
        for (int projector = 0; projector < projectors; projector++) {
            all.add((long) x.covered(1 << projector));
            all.add((long) x.blended(projector, 5));
        }
        all.add((long) x.covered((1 << projectors) - 1));
        all.add((long) x.least());
        all.add((long) x.leastAnew());
        all.add(x.bears((1 << projectors) - 1) ? 1L : 0L);
        all.add((long) x.breaches());
    }

    private void tellAll(FacadeShow x, List<Long> all) {
        all.add((long) x.wind(0));
        for (int phase = 0; phase < 3; phase++) {
            all.add((long) x.phase(phase, 99999));
        }
        for (int projector = 0; projector < projectors; projector++) {
            all.add((long) x.ready(projector, 0));
            all.add(x.turn(projector, true) ? 1L : 0L);
            all.add(x.fail(projector, false) ? 1L : 0L);
        }
        for (int column = 0; column < 16; column++) {
            for (int row = 3; row <= 11; row++) {
                int told = column * 12 + row;
                all.add(outcome(() -> x.cell(told / 12, told % 12, FacadeShow.EMPTY)));
            }
        }
    }

    /** The whole front, seen by projector 0, after all but masts is out of the way. */
    private static void askFront(FacadeShow x, List<Long> all) {
        for (int half = 0; half < 16; half += 8) {
            x.aim(0, half, half + 7);
            for (int column = half; column < half + 8; column++) {
                all.add((long) x.gives(0, column));
                all.add((long) x.through(0, column, 1));
                all.add((long) x.through(0, column, 2));
            }
        }
    }

    private void ofTheFront() {
        for (int far : new int[] {-1, 16, LEAST, MOST}) {
            refused("column of " + far, NO_SUCH, x -> { x.column(far, 0, 0); return 0; });
            refused("cell of column " + far, NO_SUCH, x -> x.cell(far, 5, 1));
        }
        for (int far : new int[] {-1, 3, LEAST, MOST}) {
            refused("relief " + far, BAD_ARGUMENT, x -> { x.column(4, far, FacadeShow.GLASS); return 0; });
            refused("surface " + far, BAD_ARGUMENT, x -> { x.column(4, 0, far); return 0; });
        }
        for (int far : new int[] {-1, 2, 12, LEAST, MOST}) {
            refused("cell of row " + far, NO_SUCH, x -> x.cell(3, far, 1));
        }
        for (int far : new int[] {-1, 4, LEAST, MOST}) {
            refused("cell, what " + far, BAD_ARGUMENT, x -> x.cell(3, 4, far));
        }
        for (int what = FacadeShow.EMPTY; what <= FacadeShow.NEST; what++) {
            int told = what;
            refused("cell with a mast, what " + what, BAD_STATE, x -> x.cell(4, 8, told));
        }
        for (int far : new int[] {-1, 65536, LEAST, MOST}) {
            refused("need of columns " + far, BAD_ARGUMENT, x -> { x.need(far, 1); return 0; });
        }
        for (int far : new int[] {-1, 0, 10000, LEAST, MOST}) {
            refused("need of level " + far, BAD_ARGUMENT, x -> { x.need(1, far); return 0; });
        }
    }

    private void ofNewProjectors() {
        for (int far : new int[] {-1, 16, LEAST, MOST}) {
            refused("projector in column " + far, NO_SUCH, x -> x.projector(far, 7, 1, 0, 1));
        }
        for (int far : new int[] {-1, 2, 12, LEAST, MOST}) {
            refused("projector in row " + far, NO_SUCH, x -> x.projector(3, far, 1, 0, 1));
        }
        for (int far : new int[] {-1, 0, 10000, LEAST, MOST}) {
            refused("projector of power " + far, BAD_ARGUMENT, x -> x.projector(3, 7, far, 0, 1));
        }
        for (int far : new int[] {-1, 3, LEAST, MOST}) {
            refused("projector of phase " + far, BAD_ARGUMENT, x -> x.projector(3, 7, 1, far, 1));
        }
        for (int far : new int[] {-1, 0, 12, LEAST, MOST}) {
            refused("projector of focus " + far, BAD_ARGUMENT, x -> x.projector(3, 7, 1, 0, far));
        }
        refused("projector on a mast", BAD_STATE, x -> x.projector(4, 8, 1, 0, 1));
        refused("projector in a tree", BAD_STATE, x -> x.projector(3, 4, 1, 0, 1));
        refused("projector on people", BAD_STATE, x -> x.projector(5, 5, 1, 0, 1));
        refused("projector in a nest", BAD_STATE, x -> x.projector(8, 3, 1, 0, 1));
    }

    private void ofProjectors(int... numbers) {
        for (int far : numbers) {
            refused("aim " + far, NO_SUCH, x -> { x.aim(far, 0, 0); return 0; });
            refused("turn on " + far, NO_SUCH, x -> x.turn(far, true) ? 1 : 0);
            refused("turn off " + far, NO_SUCH, x -> x.turn(far, false) ? 1 : 0);
            refused("fail " + far, NO_SUCH, x -> x.fail(far, true) ? 1 : 0);
            refused("mend " + far, NO_SUCH, x -> x.fail(far, false) ? 1 : 0);
            refused("through of " + far, NO_SUCH, x -> x.through(far, 0, 3));
            refused("gives of " + far, NO_SUCH, x -> x.gives(far, 0));
            refused("isSharp of " + far, NO_SUCH, x -> x.isSharp(far, 0) ? 1 : 0);
            refused("blended of " + far, NO_SUCH, x -> x.blended(far, 0));
            refused("ready of " + far, NO_SUCH, x -> x.ready(far, 9));
        }
    }

    private void ofColumns() {
        for (int far : new int[] {-1, 16, LEAST, MOST}) {
            refused("through to " + far, NO_SUCH, x -> x.through(0, far, 3));
            refused("gives to " + far, NO_SUCH, x -> x.gives(0, far));
            refused("isSharp at " + far, NO_SUCH, x -> x.isSharp(0, far) ? 1 : 0);
            refused("light of " + far, NO_SUCH, x -> x.light(far));
            refused("blended at " + far, NO_SUCH, x -> x.blended(0, far));
        }
        for (int far : new int[] {-1, 12, LEAST, MOST}) {
            refused("through in " + far, NO_SUCH, x -> x.through(0, 0, far));
        }
    }

    private void ofAims() {
        for (int far : new int[] {-1, 16, LEAST, MOST}) {
            refused("aim from " + far, NO_SUCH, x -> { x.aim(0, far, 3); return 0; });
            refused("aim to " + far, NO_SUCH, x -> { x.aim(0, 9, far); return 0; });
        }
        refused("aim to below from", BAD_ARGUMENT, x -> { x.aim(0, 9, 8); return 0; });
        refused("aim to far below from", BAD_ARGUMENT, x -> { x.aim(0, 15, 0); return 0; });
        refused("aim too far", BAD_ARGUMENT, x -> { x.aim(0, 0, 8); return 0; });
        refused("aim far too far", BAD_ARGUMENT, x -> { x.aim(0, 0, 15); return 0; });
    }

    private void ofPhasesAndWinds() {
        refused("turn on too much", BAD_STATE, x -> x.turn(2, true) ? 1 : 0);
        for (int far : new int[] {-1, 3, LEAST, MOST}) {
            refused("phase " + far, BAD_ARGUMENT, x -> x.phase(far, 1));
        }
        for (int far : new int[] {-1, 100000, LEAST, MOST}) {
            refused("phase with power " + far, BAD_ARGUMENT, x -> x.phase(1, far));
        }
        for (int far : new int[] {-1, 9, LEAST, MOST}) {
            refused("wind " + far, BAD_ARGUMENT, x -> x.wind(far));
        }
    }

    private void ofSets() {
        for (int others : new int[] {-1, 8, 9, 1 << 10, LEAST, MOST}) {
            refused("covered by " + others, BAD_ARGUMENT, x -> x.covered(others));
            refused("bears with " + others, BAD_ARGUMENT, x -> x.bears(others) ? 1 : 0);
        }
    }

    private void ofScenes() {
        for (int far : new int[] {-1, 4, LEAST, MOST}) {
            refused("propose for " + far, NO_SUCH, x -> x.propose(far, 1));
            refused("answer for " + far, NO_SUCH, x -> x.answer(far, true));
            refused("refusal for " + far, NO_SUCH, x -> x.answer(far, false));
            refused("scene " + far, NO_SUCH, x -> x.scene(far, true));
            refused("version of " + far, NO_SUCH, x -> x.scene(far, false));
        }
        for (int far : new int[] {-1, 1000, LEAST, MOST}) {
            refused("propose " + far, BAD_ARGUMENT, x -> x.propose(1, far));
        }
        refused("answer without a proposal", BAD_STATE, x -> x.answer(0, true));
        refused("refusal without a proposal", BAD_STATE, x -> x.answer(0, false));
    }

    private void ofTime() {
        for (int far : new int[] {-1, 1440, LEAST, MOST}) {
            refused("curfew from " + far, BAD_ARGUMENT, x -> { x.curfew(far, 1440); return 0; });
        }
        for (int far : new int[] {-1, 0, 1441, LEAST, MOST}) {
            refused("curfew from 1 to " + far, BAD_ARGUMENT, x -> { x.curfew(1, far); return 0; });
        }
        for (int far : new int[] {-1, 100000, LEAST, MOST}) {
            refused("ready for " + far, BAD_ARGUMENT, x -> x.ready(0, far));
        }
        for (int far : new int[] {-1, 6, LEAST, MOST}) {
            refused("show " + far, BAD_ARGUMENT, x -> x.show(far));
        }
        for (int far : new int[] {-1, 0, 1441, LEAST, MOST}) {
            refused("pass " + far, BAD_ARGUMENT, x -> x.pass(far));
        }
    }
}
