/** Promises 20 to 27: breaches, curfew, ready, propose, answer, scene, show, pass. */
final class ShowTest {
    private static final Check CHECK = new Check("ShowTest");

    public static void main(String[] args) {
        breachesAreRays();
        breachesAtTheEnds();
        breachesNeedFreeRays();
        curfewHasItsMinutes();
        curfewComesEachDay();
        curfewCountsFailedOnes();
        curfewRefuses();
        readyTells();
        proposeReplaces();
        answerTakesOrRefuses();
        sceneTells();
        scenesRefuse();
        showTells();
        showRefuses();
        passCountsBreaches();
        passAddsEnergy();
        passAddsEnergyOfEachPhase();
        passGoesByFrames();
        passEnds();
        passRefuses();
        CHECK.end();
    }

    /** A projector before column 4 that covers columns 3 to 5. */
    private static FacadeShow one() {
        FacadeShow x = new FacadeShow();
        x.projector(4, 8, 200, 0, 8);
        x.aim(0, 3, 5);
        x.turn(0, true);
        return x;
    }

    private static void breachesAreRays() {
        FacadeShow x = one();
        CHECK.due("20 none", x.breaches(), 0);
        x.cell(4, 7, FacadeShow.PEOPLE);
        CHECK.due("20 three rays through one cell", x.breaches(), 3);
        x.cell(4, 6, FacadeShow.NEST);
        CHECK.due("20 one ray counts one", x.breaches(), 3);
        x.cell(4, 7, FacadeShow.EMPTY);
        CHECK.due("20 a nest", x.breaches(), 3);
        x.cell(4, 6, FacadeShow.EMPTY);
        x.cell(5, 4, FacadeShow.NEST);
        CHECK.due("20 one ray", x.breaches(), 1);
        x.cell(3, 3, FacadeShow.NEST);
        CHECK.due("20 another one", x.breaches(), 2);
        x.aim(0, 4, 5);
        CHECK.due("20 only what is covered", x.breaches(), 1);
        x.cell(4, 9, FacadeShow.PEOPLE);
        x.cell(6, 4, FacadeShow.PEOPLE);
        CHECK.due("20 people out of the way", x.breaches(), 1);
        x.column(5, 0, FacadeShow.GLASS);
        CHECK.due("20 to glass", x.breaches(), 1);
        x.wind(4);
        CHECK.due("20 shifted", x.breaches(), 2);
        x.curfew(0, 1440);
        CHECK.due("20 without the curfew", x.breaches(), 2);
    }

    private static void breachesAtTheEnds() {
        FacadeShow x = new FacadeShow();
        x.projector(0, 11, 1, 0, 11);
        x.projector(15, 4, 1, 0, 4);
        x.aim(0, 0, 7);
        x.aim(1, 8, 15);
        x.turn(0, true);
        x.turn(1, true);
        x.cell(0, 10, FacadeShow.NEST);
        CHECK.due("20 rays that begin alike", x.breaches(), 6);
        x.cell(0, 10, FacadeShow.EMPTY);
        x.cell(0, 3, FacadeShow.NEST);
        CHECK.due("20 to column 0", x.breaches(), 1);
        x.cell(15, 3, FacadeShow.PEOPLE);
        CHECK.due("20 to column 15 and two more", x.breaches(), 4);
        x.aim(1, 15, 15);
        CHECK.due("20 to column 15", x.breaches(), 2);
    }

    private static void breachesNeedFreeRays() {
        FacadeShow x = one();
        x.cell(4, 7, FacadeShow.PEOPLE);
        x.cell(4, 3, FacadeShow.TREE);
        CHECK.due("20 one blocked", x.breaches(), 2);
        x.projector(5, 3, 200, 1, 3);
        CHECK.due("20 one blocked by a mast", x.breaches(), 1);
        x.turn(0, false);
        CHECK.due("20 off", x.breaches(), 0);
        x.turn(0, true);
        x.fail(0, true);
        CHECK.due("20 failed", x.breaches(), 0);
        x.fail(0, false);
        CHECK.due("20 mended", x.breaches(), 1);
        x.projector(6, 8, 200, 2, 8);
        x.aim(1, 5, 5);
        x.turn(1, true);
        x.aim(2, 6, 7);
        x.turn(2, true);
        x.cell(6, 6, FacadeShow.NEST);
        CHECK.due("20 of two projectors", x.breaches(), 3);
    }

    private static void curfewHasItsMinutes() {
        FacadeShow x = one();
        x.projector(0, 3, 1, 0, 3);
        x.turn(1, true);
        x.curfew(2, 4);
        int[] due = {0, 0, 2, 4, 4, 4};
        for (int minute = 0; minute < due.length; minute++) {
            x.pass(1);
            CHECK.due("21 after minute " + minute, x.show(2), due[minute]);
        }
        FacadeShow first = one();
        first.curfew(0, 1);
        first.pass(1440);
        CHECK.due("21 the first minute", first.show(2), 1);
        FacadeShow last = one();
        last.curfew(1439, 1440);
        last.pass(1439);
        CHECK.due("21 before the last minute", last.show(2), 0);
        last.pass(1);
        CHECK.due("21 the last minute", last.show(2), 1);
        FacadeShow all = one();
        all.curfew(0, 1440);
        all.pass(1440);
        CHECK.due("21 all day", all.show(2), 1440);
        all.curfew(700, 700);
        all.pass(1440);
        CHECK.due("21 none", all.show(2), 1440);
    }

    private static void curfewComesEachDay() {
        FacadeShow x = one();
        x.curfew(100, 110);
        x.pass(1440);
        CHECK.due("21 first day", x.show(2), 10);
        x.pass(105);
        CHECK.due("21 second day, half", x.show(2), 15);
        x.pass(1335);
        CHECK.due("21 second day", x.show(2), 20);
        x.pass(1440);
        CHECK.due("21 third day", x.show(2), 30);
    }

    private static void curfewCountsFailedOnes() {
        FacadeShow x = one();
        x.projector(0, 3, 1, 0, 3);
        x.curfew(0, 1440);
        x.cell(4, 7, FacadeShow.PEOPLE);
        x.pass(1);
        CHECK.due("21 three breaches and one on", x.show(2), 4);
        x.fail(0, true);
        x.pass(1);
        CHECK.due("21 failed", x.show(2), 5);
        x.turn(0, false);
        x.pass(1);
        CHECK.due("21 off", x.show(2), 5);
    }

    private static void curfewRefuses() {
        FacadeShow x = one();
        x.curfew(0, 2);
        CHECK.badArgument("21 from -1", () -> { x.curfew(-1, 5); return 0; });
        CHECK.badArgument("21 from 1440", () -> { x.curfew(1440, 1440); return 0; });
        CHECK.badArgument("21 to below from", () -> { x.curfew(5, 4); return 0; });
        CHECK.badArgument("21 to 1441", () -> { x.curfew(0, 1441); return 0; });
        x.pass(10);
        CHECK.due("21 nothing changed", x.show(2), 2);
    }

    private static void readyTells() {
        FacadeShow x = one();
        CHECK.due("22 first", x.ready(0, 99999), 0);
        CHECK.due("22 then", x.ready(0, 3), 99999);
        CHECK.noSuch("22 projector -1", () -> x.ready(-1, 0));
        CHECK.noSuch("22 projector 1", () -> x.ready(1, 100000));
        CHECK.badArgument("22 frame -1", () -> x.ready(0, -1));
        CHECK.badArgument("22 frame 100000", () -> x.ready(0, 100000));
        CHECK.due("22 nothing changed", x.ready(0, 0), 3);
        CHECK.due("22 back", x.ready(0, 0), 0);
        x.projector(0, 3, 1, 0, 3);
        x.ready(1, 7);
        CHECK.due("22 its own", x.ready(0, 0), 0);
    }

    private static void proposeReplaces() {
        FacadeShow x = new FacadeShow();
        CHECK.due("23 first", x.propose(0, 7), FacadeShow.NONE);
        CHECK.due("23 in place", x.propose(0, 999), 7);
        CHECK.due("23 nought", x.propose(0, 0), 999);
        CHECK.due("23 after nought", x.propose(0, 5), 0);
        CHECK.due("23 another scene", x.propose(3, 4), FacadeShow.NONE);
        CHECK.due("23 version stays", x.scene(0, false), 0);
    }

    private static void answerTakesOrRefuses() {
        FacadeShow x = new FacadeShow();
        x.propose(1, 7);
        CHECK.due("24 taken", x.answer(1, true), 7);
        CHECK.due("24 nothing is proposed", x.scene(1, true), FacadeShow.NONE);
        CHECK.badState("24 again", () -> x.answer(1, true));
        x.propose(1, 8);
        CHECK.due("24 refused", x.answer(1, false), 7);
        CHECK.due("24 nothing is proposed", x.scene(1, true), FacadeShow.NONE);
        CHECK.badState("24 refused again", () -> x.answer(1, false));
        CHECK.due("24 the version", x.scene(1, false), 7);
        x.propose(1, 0);
        CHECK.due("24 nought taken", x.answer(1, true), 0);
        CHECK.badState("24 another scene", () -> x.answer(0, true));
    }

    private static void sceneTells() {
        FacadeShow x = new FacadeShow();
        for (int scene = 0; scene < 4; scene++) {
            x.propose(scene, 10 + scene);
        }
        x.answer(2, true);
        x.answer(3, false);
        int[] versions = {0, 0, 12, 0};
        int[] proposed = {10, 11, FacadeShow.NONE, FacadeShow.NONE};
        for (int scene = 0; scene < 4; scene++) {
            CHECK.due("25 version", x.scene(scene, false), versions[scene]);
            CHECK.due("25 proposed", x.scene(scene, true), proposed[scene]);
        }
    }

    private static void scenesRefuse() {
        FacadeShow x = new FacadeShow();
        CHECK.noSuch("23 scene -1", () -> x.propose(-1, 0));
        CHECK.noSuch("23 scene 4", () -> x.propose(4, 1000));
        CHECK.badArgument("23 version -1", () -> x.propose(0, -1));
        CHECK.badArgument("23 version 1000", () -> x.propose(0, 1000));
        CHECK.noSuch("24 scene -1", () -> x.answer(-1, true));
        CHECK.noSuch("24 scene 4", () -> x.answer(4, false));
        CHECK.noSuch("25 scene -1", () -> x.scene(-1, true));
        CHECK.noSuch("25 scene 4", () -> x.scene(4, false));
        CHECK.due("25 nothing changed", x.scene(0, true), FacadeShow.NONE);
    }

    private static void shows(String what, FacadeShow x, long... due) {
        for (int asked = 0; asked < due.length; asked++) {
            CHECK.due(what + ", show " + asked, x.show(asked), due[asked]);
        }
    }

    private static void showTells() {
        FacadeShow x = one();
        shows("26 at first", x, 0, 0, 0, 0, 0, 1);
        x.ready(0, 2);
        x.cell(4, 7, FacadeShow.PEOPLE);
        x.pass(5);
        shows("26 then", x, 2, 3, 15, 1000, 5, 1);
        x.projector(0, 3, 30, 0, 3);
        x.turn(1, true);
        shows("26 two on", x, 2, 3, 15, 1000, 5, 2);
        x.fail(1, true);
        x.pass(1);
        shows("26 a failed one is on", x, 2, 4, 18, 1230, 6, 2);
        x.turn(0, false);
        x.turn(1, false);
        x.pass(4);
        shows("26 all off", x, 2, 8, 18, 1230, 10, 0);
    }

    private static void showRefuses() {
        FacadeShow x = one();
        CHECK.badArgument("26 what -1", () -> x.show(-1));
        CHECK.badArgument("26 what 6", () -> x.show(6));
    }

    private static void passCountsBreaches() {
        FacadeShow x = one();
        x.cell(4, 7, FacadeShow.PEOPLE);
        CHECK.due("27 minute", x.pass(2), 2);
        CHECK.due("27 three each", x.show(2), 6);
        x.cell(4, 7, FacadeShow.EMPTY);
        CHECK.due("27 minute then", x.pass(7), 9);
        CHECK.due("27 no more", x.show(2), 6);
    }

    private static void passAddsEnergy() {
        FacadeShow x = new FacadeShow();
        for (int number = 0; number < 10; number++) {
            x.projector(number, 3, 9999, number % 3, 3);
        }
        for (int phase = 0; phase < 3; phase++) {
            x.phase(phase, 99999);
        }
        for (int number = 0; number < 10; number++) {
            x.turn(number, true);
        }
        x.fail(4, true);
        for (int day = 0; day < 69; day++) {
            x.pass(1440);
        }
        CHECK.due("27 more than an int", x.show(3), 99990L * 99360);
        x.turn(0, false);
        x.pass(1);
        CHECK.due("27 without one", x.show(3), 99990L * 99360 + 89991);
    }

    private static void passAddsEnergyOfEachPhase() {
        FacadeShow x = new FacadeShow();
        x.projector(0, 3, 1, 0, 3);
        x.projector(1, 3, 10, 1, 3);
        x.projector(2, 3, 100, 2, 3);
        x.projector(3, 3, 1000, 1, 3);
        x.turn(0, true);
        x.turn(1, true);
        x.turn(2, true);
        x.pass(2);
        CHECK.due("27 of three phases", x.show(3), 222);
        x.turn(0, false);
        x.pass(1);
        CHECK.due("27 of two phases", x.show(3), 332);
    }

    private static void passGoesByFrames() {
        FacadeShow x = new FacadeShow();
        x.pass(3);
        shows("27 with none it is held", x, 0, 3);
        x.projector(0, 3, 1, 0, 3);
        x.projector(1, 3, 1, 0, 3);
        x.ready(0, 4);
        x.ready(1, 2);
        x.pass(1);
        shows("27 off it is held", x, 0, 4);
        x.turn(0, true);
        x.pass(1);
        shows("27 one is on", x, 1, 4);
        x.turn(1, true);
        x.pass(3);
        shows("27 both ready for 2", x, 2, 6);
        x.fail(1, true);
        x.pass(1);
        shows("27 a failed one does not hold", x, 3, 6);
        x.fail(1, false);
        x.pass(1);
        shows("27 mended it holds", x, 3, 7);
        x.ready(1, 99999);
        x.pass(2);
        shows("27 the first holds", x, 4, 8);
        x.ready(0, 1);
        x.pass(1);
        shows("27 never back", x, 4, 9);
        x.fail(0, true);
        x.fail(1, true);
        x.pass(1);
        shows("27 all failed", x, 4, 10);
    }

    private static void passEnds() {
        FacadeShow x = one();
        x.ready(0, 99999);
        for (int day = 1; day <= 69; day++) {
            CHECK.due("27 a day", x.pass(1440), day * 1440);
        }
        CHECK.badState("27 above by one", () -> x.pass(640));
        CHECK.badState("27 far above", () -> x.pass(1440));
        shows("27 nothing changed", x, 99360, 0, 0, 200L * 99360, 99360, 1);
        CHECK.due("27 the last minute", x.pass(639), 99999);
        CHECK.badState("27 no more", () -> x.pass(1));
        CHECK.badArgument("27 argument first", () -> x.pass(1441));
        shows("27 at the end", x, 99999, 0, 0, 200L * 99999, 99999, 1);
    }

    private static void passRefuses() {
        FacadeShow x = one();
        CHECK.badArgument("27 minutes 0", () -> x.pass(0));
        CHECK.badArgument("27 minutes -1", () -> x.pass(-1));
        CHECK.badArgument("27 minutes 1441", () -> x.pass(1441));
        CHECK.badArgument("27 the most minutes", () -> x.pass(Integer.MAX_VALUE));
        shows("27 nothing changed", x, 0, 0, 0, 0, 0, 1);
        CHECK.due("27 the least", x.pass(1), 1);
        CHECK.due("27 the most", x.pass(1440), 1441);
    }
}
