import java.io.IOException;

/** Promises 20 to 27: breaches, curfew, ready, propose, answer, scene, show, pass. */
final class ShowTest {
    private static final Check CHECK = new Check("ShowTest");

    public static void main(String[] args) throws IOException {
        Quotes quotes = new Quotes(CHECK, Document.promises(20, 27));
        breachesAndCurfew(quotes);
        machinesAndScenes(quotes);
        showAndPass(quotes);
        quotes.end();
    }

    private static void breachesAndCurfew(Quotes quotes) {
        quotes.test("20 Returns how many breaches there are now, without the curfew.", ShowTest::breachesAreRays,
                ShowTest::breachesAtTheEnds, ShowTest::breachesNeedFreeRays, ShowTest::breachesLeaveCurfewOut);
        quotes.test("21 Tells the curfew of each day.", ShowTest::curfewComesEachDay, ShowTest::curfewIsToldAnew,
                ShowTest::curfewCountsFailedOnes);
        quotes.test("21 - `from`", ShowTest::curfewHasItsMinutes);
        quotes.test("21 - `to`", ShowTest::curfewMayBeNone);
        quotes.test("21 Throws `IllegalArgument", ShowTest::curfewRefuses);
    }

    private static void machinesAndScenes(Quotes quotes) {
        quotes.test("22 Tells up to which frame the machine of a projector is ready.", ShowTest::readyIsItsOwn);
        quotes.test("22 - `frame`", ShowTest::readyForNoneOrAll);
        quotes.test("22 Returns the one before.", ShowTest::readyTells);
        quotes.test("22 Throws `IndexOutOfBounds", ShowTest::readyRefusesProjectors);
        quotes.test("22 Throws `IllegalArgument", ShowTest::readyRefusesFrames);
        quotes.test("23 Proposes a version of a scene.", ShowTest::proposeIsForItsScene);
        quotes.test("23 - `version`", ShowTest::proposeHasItsVersions);
        quotes.test("23 Returns what was proposed, NONE without.", ShowTest::proposeReplaces);
        quotes.test("23 Throws `IndexOutOfBounds", ShowTest::proposeRefusesScenes);
        quotes.test("23 Throws `IllegalArgument", ShowTest::proposeRefusesVersions);
        quotes.test("24 The owner of a scene takes what is proposed", ShowTest::answerTakesOrRefuses);
        quotes.test("24 Returns the version then.", ShowTest::answerTellsTheVersion);
        quotes.test("24 Throws `IndexOutOfBounds", ShowTest::answerRefusesScenes);
        quotes.test("24 Throws `IllegalState", ShowTest::answerNeedsAProposal);
        quotes.test("25 Returns the version of a scene, or what is proposed.", ShowTest::sceneTells);
        quotes.test("25 Returns the version; NONE if nothing is proposed.", ShowTest::sceneTellsOfNone);
        quotes.test("25 Throws `IndexOutOfBounds", ShowTest::sceneRefuses);
    }

    private static void showAndPass(Quotes quotes) {
        quotes.test("26 Tells of the show.", ShowTest::showTells);
        quotes.test("26 - `what`", ShowTest::showBeginsWithNought, ShowTest::showTellsEachApart);
        quotes.test("26 Throws `IllegalArgument", ShowTest::showRefuses);
        quotes.test("27 Lets minutes pass.", ShowTest::passCountsBreaches, ShowTest::passAddsEnergy,
                ShowTest::passAddsEnergyOfEachPhase, ShowTest::passGoesByFrames);
        quotes.test("27 - `minutes`", ShowTest::passIsOfMinutes);
        quotes.test("27 Returns the minute then.", ShowTest::passTellsTheMinute);
        quotes.test("27 Throws `IllegalArgument", ShowTest::passRefuses);
        quotes.test("27 Throws `IllegalState", ShowTest::passEnds);
    }

    /** A projector before column 4 that covers columns 3 to 5. */
    private static FacadeShow one() {
        FacadeShow x = new FacadeShow();
        x.projector(4, 8, 200, 0, 8);
        x.aim(0, 3, 5);
        x.turn(0, true);
        return x;
    }

    private static void breachesAreRays() {
        FacadeShow x = one();
        CHECK.due("none", x.breaches(), 0);
        x.cell(4, 7, FacadeShow.PEOPLE);
        CHECK.due("three rays through one cell", x.breaches(), 3);
        x.cell(4, 6, FacadeShow.NEST);
        CHECK.due("one ray counts one", x.breaches(), 3);
        x.cell(4, 7, FacadeShow.EMPTY);
        CHECK.due("a nest", x.breaches(), 3);
        x.cell(4, 6, FacadeShow.EMPTY);
        x.cell(5, 4, FacadeShow.NEST);
        CHECK.due("one ray", x.breaches(), 1);
        x.cell(3, 3, FacadeShow.NEST);
        CHECK.due("another one", x.breaches(), 2);
        x.aim(0, 4, 5);
        CHECK.due("only what is covered", x.breaches(), 1);
        x.cell(4, 9, FacadeShow.PEOPLE);
        x.cell(6, 4, FacadeShow.PEOPLE);
        CHECK.due("people out of the way", x.breaches(), 1);
        x.column(5, 0, FacadeShow.GLASS);
        CHECK.due("to glass", x.breaches(), 1);
        x.wind(4);
        CHECK.due("shifted", x.breaches(), 2);
    }

    private static void breachesAtTheEnds() {
        FacadeShow x = new FacadeShow();
        x.projector(0, 11, 1, 0, 11);
        x.projector(15, 4, 1, 0, 4);
        x.aim(0, 0, 7);
        x.aim(1, 8, 15);
        x.turn(0, true);
        x.turn(1, true);
        x.cell(0, 10, FacadeShow.NEST);
        CHECK.due("rays that begin alike", x.breaches(), 6);
        x.cell(0, 10, FacadeShow.EMPTY);
        x.cell(0, 3, FacadeShow.NEST);
        CHECK.due("to column 0", x.breaches(), 1);
        x.cell(15, 3, FacadeShow.PEOPLE);
        CHECK.due("to column 15 and two more", x.breaches(), 4);
        x.aim(1, 15, 15);
        CHECK.due("to column 15", x.breaches(), 2);
    }

    private static void breachesNeedFreeRays() {
        FacadeShow x = one();
        x.cell(4, 7, FacadeShow.PEOPLE);
        x.cell(4, 3, FacadeShow.TREE);
        CHECK.due("one blocked", x.breaches(), 2);
        x.projector(5, 3, 200, 1, 3);
        CHECK.due("one blocked by a mast", x.breaches(), 1);
        x.turn(0, false);
        CHECK.due("off", x.breaches(), 0);
        x.turn(0, true);
        x.fail(0, true);
        CHECK.due("failed", x.breaches(), 0);
        x.fail(0, false);
        CHECK.due("mended", x.breaches(), 1);
        x.projector(6, 8, 200, 2, 8);
        x.aim(1, 5, 5);
        x.turn(1, true);
        x.aim(2, 6, 7);
        x.turn(2, true);
        x.cell(6, 6, FacadeShow.NEST);
        CHECK.due("of two projectors", x.breaches(), 3);
    }

    private static void breachesLeaveCurfewOut() {
        FacadeShow x = one();
        x.curfew(0, 1440);
        CHECK.due("none", x.breaches(), 0);
        x.cell(4, 7, FacadeShow.PEOPLE);
        CHECK.due("three", x.breaches(), 3);
        x.pass(1);
        CHECK.due("three still", x.breaches(), 3);
        CHECK.due("counted with the curfew", x.show(2), 4);
    }

    private static void curfewHasItsMinutes() {
        FacadeShow x = one();
        x.projector(0, 3, 1, 0, 3);
        x.turn(1, true);
        x.curfew(2, 4);
        int[] due = {0, 0, 2, 4, 4, 4};
        for (int minute = 0; minute < due.length; minute++) {
            x.pass(1);
            CHECK.due("after minute " + minute, x.show(2), due[minute]);
        }
        FacadeShow first = one();
        first.curfew(0, 1);
        first.pass(1440);
        CHECK.due("the first minute", first.show(2), 1);
        FacadeShow last = one();
        last.curfew(1439, 1440);
        last.pass(1439);
        CHECK.due("before the last minute", last.show(2), 0);
        last.pass(1);
        CHECK.due("the last minute", last.show(2), 1);
    }

    private static void curfewMayBeNone() {
        FacadeShow x = one();
        x.curfew(0, 1440);
        x.pass(1440);
        CHECK.due("all day", x.show(2), 1440);
        int[] none = {0, 700, 1439};
        for (int from : none) {
            x.curfew(from, from);
            x.pass(1440);
            CHECK.due("none from " + from, x.show(2), 1440);
        }
        x.curfew(0, 1439);
        x.pass(1440);
        CHECK.due("all but the last", x.show(2), 1440 + 1439);
        x.curfew(1, 1440);
        x.pass(1440);
        CHECK.due("all but the first", x.show(2), 1440 + 2 * 1439);
    }

    private static void curfewIsToldAnew() {
        FacadeShow x = one();
        x.curfew(0, 1440);
        x.curfew(3, 5);
        x.pass(1440);
        CHECK.due("only as told last", x.show(2), 2);
        x.pass(3);
        x.curfew(0, 4);
        x.pass(2);
        CHECK.due("told within a day", x.show(2), 3);
    }

    private static void curfewComesEachDay() {
        FacadeShow x = one();
        x.curfew(100, 110);
        x.pass(1440);
        CHECK.due("first day", x.show(2), 10);
        x.pass(105);
        CHECK.due("second day, half", x.show(2), 15);
        x.pass(1335);
        CHECK.due("second day", x.show(2), 20);
        x.pass(1440);
        CHECK.due("third day", x.show(2), 30);
    }

    private static void curfewCountsFailedOnes() {
        FacadeShow x = one();
        x.projector(0, 3, 1, 0, 3);
        x.curfew(0, 1440);
        x.cell(4, 7, FacadeShow.PEOPLE);
        x.pass(1);
        CHECK.due("three breaches and one on", x.show(2), 4);
        x.fail(0, true);
        x.pass(1);
        CHECK.due("failed", x.show(2), 5);
        x.turn(0, false);
        x.pass(1);
        CHECK.due("off", x.show(2), 5);
    }

    private static void curfewRefuses() {
        FacadeShow x = one();
        CHECK.range("from", 0, 1439, from -> { x.curfew(from, 1440); return 0; });
        CHECK.range("to", 0, 1440, to -> { x.curfew(0, to); return 0; });
        CHECK.range("to after from", 1439, 1440, to -> { x.curfew(1439, to); return 0; });
        CHECK.range("to after 700", 700, 1440, to -> { x.curfew(700, to); return 0; });
        CHECK.badArgument("from 1440, for none", () -> { x.curfew(1440, 1440); return 0; });
        CHECK.badArgument("from -1, for none", () -> { x.curfew(-1, -1); return 0; });
    }

    private static void readyIsItsOwn() {
        FacadeShow x = new FacadeShow();
        for (int number = 0; number < 10; number++) {
            x.projector(number, 3, 1, 0, 3);
        }
        for (int number = 0; number < 10; number++) {
            x.ready(number, 100 + number);
        }
        for (int number = 0; number < 10; number++) {
            CHECK.due("projector " + number, x.ready(number, 0), 100 + number);
        }
    }

    private static void readyForNoneOrAll() {
        FacadeShow x = one();
        x.ready(0, 0);
        x.pass(5);
        shows("ready for 0 alone", x, 0, 5);
        x.ready(0, 1);
        x.pass(5);
        shows("ready for 1", x, 1, 9);
        x.ready(0, 99999);
        x.pass(1440);
        shows("ready for all", x, 1441, 9);
    }

    private static void readyTells() {
        FacadeShow x = one();
        CHECK.due("first", x.ready(0, 99999), 0);
        CHECK.due("then", x.ready(0, 3), 99999);
        CHECK.due("less", x.ready(0, 0), 3);
        CHECK.due("at last", x.ready(0, 0), 0);
        x.ready(0, 7);
        x.pass(3);
        CHECK.due("it stays while time passes", x.ready(0, 7), 7);
    }

    private static void readyRefusesProjectors() {
        FacadeShow none = new FacadeShow();
        CHECK.noSuch("none yet", () -> none.ready(0, 0));
        FacadeShow x = one();
        x.projector(0, 3, 1, 0, 3);
        CHECK.numbers("projector", 0, 1, projector -> x.ready(projector, 5));
    }

    private static void readyRefusesFrames() {
        FacadeShow x = one();
        CHECK.range("frame", 0, 99999, frame -> x.ready(0, frame));
    }

    private static void proposeIsForItsScene() {
        FacadeShow x = new FacadeShow();
        for (int scene = 0; scene < 4; scene++) {
            CHECK.due("nothing yet", x.propose(scene, 20 + scene), FacadeShow.NONE);
        }
        for (int scene = 0; scene < 4; scene++) {
            CHECK.due("its own", x.scene(scene, true), 20 + scene);
            CHECK.due("version stays", x.scene(scene, false), 0);
        }
    }

    private static void proposeHasItsVersions() {
        FacadeShow x = new FacadeShow();
        x.propose(0, 999);
        CHECK.due("the last", x.answer(0, true), 999);
        x.propose(0, 0);
        CHECK.due("the first", x.answer(0, true), 0);
        x.propose(0, 0);
        CHECK.due("the version that it has", x.answer(0, true), 0);
    }

    private static void proposeReplaces() {
        FacadeShow x = new FacadeShow();
        CHECK.due("first", x.propose(0, 7), FacadeShow.NONE);
        CHECK.due("in place", x.propose(0, 999), 7);
        CHECK.due("nought", x.propose(0, 0), 999);
        CHECK.due("after nought", x.propose(0, 5), 0);
        CHECK.due("another scene", x.propose(3, 4), FacadeShow.NONE);
        x.answer(0, true);
        CHECK.due("after it was taken", x.propose(0, 6), FacadeShow.NONE);
        x.answer(0, false);
        CHECK.due("after it was refused", x.propose(0, 6), FacadeShow.NONE);
    }

    private static void proposeRefusesScenes() {
        FacadeShow x = new FacadeShow();
        CHECK.numbers("scene", 0, 3, scene -> x.propose(scene, 5));
    }

    private static void proposeRefusesVersions() {
        FacadeShow x = new FacadeShow();
        CHECK.range("version", 0, 999, version -> x.propose(3, version));
    }

    private static void answerTakesOrRefuses() {
        FacadeShow x = new FacadeShow();
        x.propose(1, 7);
        x.propose(2, 9);
        x.answer(1, true);
        CHECK.due("taken", x.scene(1, false), 7);
        CHECK.due("nothing is proposed", x.scene(1, true), FacadeShow.NONE);
        x.propose(1, 8);
        x.answer(1, false);
        CHECK.due("refused", x.scene(1, false), 7);
        CHECK.due("nothing is proposed then", x.scene(1, true), FacadeShow.NONE);
        CHECK.due("another scene", x.scene(2, true), 9);
        CHECK.due("another version", x.scene(2, false), 0);
    }

    private static void answerTellsTheVersion() {
        FacadeShow x = new FacadeShow();
        x.propose(3, 7);
        CHECK.due("refused at first", x.answer(3, false), 0);
        x.propose(3, 999);
        CHECK.due("taken", x.answer(3, true), 999);
        x.propose(3, 8);
        CHECK.due("refused", x.answer(3, false), 999);
        x.propose(3, 0);
        CHECK.due("nought taken", x.answer(3, true), 0);
    }

    private static void answerRefusesScenes() {
        FacadeShow x = new FacadeShow();
        for (int scene = 0; scene < 4; scene++) {
            x.propose(scene, 1);
        }
        int[] far = {-1, 4, Integer.MIN_VALUE, Integer.MAX_VALUE};
        for (int scene : far) {
            CHECK.noSuch("take " + scene, () -> x.answer(scene, true));
            CHECK.noSuch("refuse " + scene, () -> x.answer(scene, false));
        }
        CHECK.due("the first", x.answer(0, true), 1);
        CHECK.due("the last", x.answer(3, true), 1);
    }

    private static void answerNeedsAProposal() {
        FacadeShow x = new FacadeShow();
        for (int scene = 0; scene < 4; scene++) {
            int asked = scene;
            CHECK.badState("none yet, taken", () -> x.answer(asked, true));
            CHECK.badState("none yet, refused", () -> x.answer(asked, false));
        }
        x.propose(0, 0);
        CHECK.badState("that of another scene", () -> x.answer(1, true));
        CHECK.due("version 0 is a proposal", x.answer(0, true), 0);
        CHECK.badState("taken already", () -> x.answer(0, true));
        x.propose(0, 5);
        x.answer(0, false);
        CHECK.badState("refused already", () -> x.answer(0, false));
    }

    private static void sceneTells() {
        FacadeShow x = new FacadeShow();
        for (int scene = 0; scene < 4; scene++) {
            x.propose(scene, 10 + scene);
        }
        x.answer(2, true);
        x.answer(3, false);
        int[] versions = {0, 0, 12, 0};
        int[] proposed = {10, 11, FacadeShow.NONE, FacadeShow.NONE};
        for (int scene = 0; scene < 4; scene++) {
            CHECK.due("version", x.scene(scene, false), versions[scene]);
            CHECK.due("proposed", x.scene(scene, true), proposed[scene]);
        }
    }

    private static void sceneTellsOfNone() {
        FacadeShow x = new FacadeShow();
        for (int scene = 0; scene < 4; scene++) {
            CHECK.due("none at first", x.scene(scene, true), FacadeShow.NONE);
            CHECK.due("version at first", x.scene(scene, false), 0);
        }
        x.propose(0, 0);
        CHECK.due("version 0", x.scene(0, true), 0);
        CHECK.due("asked again", x.scene(0, true), 0);
        x.answer(0, true);
        CHECK.due("none any more", x.scene(0, true), FacadeShow.NONE);
    }

    private static void sceneRefuses() {
        FacadeShow x = new FacadeShow();
        CHECK.numbers("proposed", 0, 3, scene -> x.scene(scene, true));
        CHECK.numbers("version", 0, 3, scene -> x.scene(scene, false));
    }

    private static void shows(String what, FacadeShow x, long... due) {
        for (int asked = 0; asked < due.length; asked++) {
            CHECK.due(what + ", show " + asked, x.show(asked), due[asked]);
        }
    }

    private static void showTells() {
        FacadeShow x = one();
        shows("at first", x, 0, 0, 0, 0, 0, 1);
        x.ready(0, 2);
        x.cell(4, 7, FacadeShow.PEOPLE);
        x.pass(5);
        shows("then", x, 2, 3, 15, 1000, 5, 1);
        x.projector(0, 3, 30, 0, 3);
        x.turn(1, true);
        shows("two on", x, 2, 3, 15, 1000, 5, 2);
        x.fail(1, true);
        x.pass(1);
        shows("a failed one is on", x, 2, 4, 18, 1230, 6, 2);
        x.turn(0, false);
        x.turn(1, false);
        x.pass(4);
        shows("all off", x, 2, 8, 18, 1230, 10, 0);
    }

    private static void showBeginsWithNought() {
        shows("new", new FacadeShow(), 0, 0, 0, 0, 0, 0);
    }

    private static void showTellsEachApart() {
        FacadeShow x = one();
        x.ready(0, 7);
        x.cell(5, 4, FacadeShow.NEST);
        x.pass(17);
        shows("six numbers", x, 7, 10, 17, 3400, 17, 1);
        shows("asked again", x, 7, 10, 17, 3400, 17, 1);
        for (int number = 1; number < 10; number++) {
            x.projector(number, 11, 100, 1, 1);
            x.turn(number, true);
            CHECK.due("on", x.show(5), number + 1);
        }
    }

    private static void showRefuses() {
        FacadeShow x = one();
        CHECK.range("what", 0, 5, what -> x.show(what));
    }

    private static void passCountsBreaches() {
        FacadeShow x = one();
        x.cell(4, 7, FacadeShow.PEOPLE);
        CHECK.due("minute", x.pass(2), 2);
        CHECK.due("three each", x.show(2), 6);
        x.cell(4, 7, FacadeShow.EMPTY);
        CHECK.due("minute then", x.pass(7), 9);
        CHECK.due("no more", x.show(2), 6);
    }

    private static void passAddsEnergy() {
        FacadeShow x = new FacadeShow();
        for (int number = 0; number < 10; number++) {
            x.projector(number, 3, 9999, number % 3, 3);
        }
        for (int phase = 0; phase < 3; phase++) {
            x.phase(phase, 99999);
        }
        for (int number = 0; number < 10; number++) {
            x.turn(number, true);
        }
        x.fail(4, true);
        for (int day = 0; day < 69; day++) {
            x.pass(1440);
        }
        CHECK.due("more than an int", x.show(3), 99990L * 99360);
        x.turn(0, false);
        x.pass(1);
        CHECK.due("without one", x.show(3), 99990L * 99360 + 89991);
    }

    private static void passAddsEnergyOfEachPhase() {
        FacadeShow x = new FacadeShow();
        x.projector(0, 3, 1, 0, 3);
        x.projector(1, 3, 10, 1, 3);
        x.projector(2, 3, 100, 2, 3);
        x.projector(3, 3, 1000, 1, 3);
        x.turn(0, true);
        x.turn(1, true);
        x.turn(2, true);
        x.pass(2);
        CHECK.due("of three phases", x.show(3), 222);
        x.turn(0, false);
        x.pass(1);
        CHECK.due("of two phases", x.show(3), 332);
    }

    private static void passGoesByFrames() {
        FacadeShow x = new FacadeShow();
        x.pass(3);
        shows("with none it is held", x, 0, 3);
        x.projector(0, 3, 1, 0, 3);
        x.projector(1, 3, 1, 0, 3);
        x.ready(0, 4);
        x.ready(1, 2);
        x.pass(1);
        shows("off it is held", x, 0, 4);
        x.turn(0, true);
        x.pass(1);
        shows("one is on", x, 1, 4);
        x.turn(1, true);
        x.pass(3);
        shows("both ready for 2", x, 2, 6);
        x.fail(1, true);
        x.pass(1);
        shows("a failed one does not hold", x, 3, 6);
        x.fail(1, false);
        x.pass(1);
        shows("mended it holds", x, 3, 7);
        x.ready(1, 99999);
        x.pass(2);
        shows("the first holds", x, 4, 8);
        x.ready(0, 1);
        x.pass(1);
        shows("never back", x, 4, 9);
        x.fail(0, true);
        x.fail(1, true);
        x.pass(1);
        shows("all failed", x, 4, 10);
    }

    private static void passEnds() {
        FacadeShow x = one();
        x.ready(0, 99999);
        for (int day = 1; day <= 69; day++) {
            CHECK.due("a day", x.pass(1440), day * 1440);
        }
        CHECK.badState("above by one", () -> x.pass(640));
        CHECK.badState("far above", () -> x.pass(1440));
        shows("nothing changed", x, 99360, 0, 0, 200L * 99360, 99360, 1);
        CHECK.due("the last minute", x.pass(639), 99999);
        CHECK.badState("no more", () -> x.pass(1));
        CHECK.badArgument("argument first", () -> x.pass(1441));
        shows("at the end", x, 99999, 0, 0, 200L * 99999, 99999, 1);
    }

    private static void passIsOfMinutes() {
        FacadeShow x = one();
        x.pass(1);
        shows("the least", x, 0, 1, 0, 200, 1, 1);
        x.pass(1440);
        shows("the most", x, 0, 1441, 0, 200L * 1441, 1441, 1);
    }

    private static void passTellsTheMinute() {
        FacadeShow x = new FacadeShow();
        int minute = 0;
        int[] passing = {1, 2, 1437, 1440, 1439, 1, 60};
        for (int minutes : passing) {
            minute += minutes;
            CHECK.due("after " + minutes + " more", x.pass(minutes), minute);
            CHECK.due("shown then", x.show(4), minute);
        }
    }

    private static void passRefuses() {
        FacadeShow x = new FacadeShow();
        CHECK.range("minutes", 1, 1440, minutes -> x.pass(minutes));
        CHECK.badArgument("minutes -1", () -> x.pass(-1));
    }
}
