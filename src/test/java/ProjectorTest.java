import java.io.IOException;

/** Promises 5 to 15: projector, aim, turn, fail, phase, wind, through, gives, isSharp, light, blended. */
final class ProjectorTest {
    private static final Check CHECK = new Check("ProjectorTest");

    public static void main(String[] args) throws IOException {
        Quotes quotes = new Quotes(CHECK, Document.promises(5, 15));
        projectorAndAim(quotes);
        turnFailPhaseWind(quotes);
        raysAndLight(quotes);
        quotes.end();
    }

    private static void projectorAndAim(Quotes quotes) {
        quotes.test("5 Sets up a projector", ProjectorTest::projectorCoversNothing);
        quotes.test("5 - `row`", ProjectorTest::projectorHasItsRows);
        quotes.test("5 - `power`", ProjectorTest::projectorHasItsPower);
        quotes.test("5 - `phase`", ProjectorTest::projectorHasItsPhase);
        quotes.test("5 - `focus`", ProjectorTest::projectorHasItsFocus);
        quotes.test("5 Returns its number.", ProjectorTest::projectorsAreNumbered);
        quotes.test("5 Throws `IndexOutOfBounds", ProjectorTest::projectorRefusesColumnsAndRows);
        quotes.test("5 Throws `IllegalArgument", ProjectorTest::projectorRefusesArguments);
        quotes.test("5 Throws `IllegalState", ProjectorTest::projectorRefusesCells,
                ProjectorTest::projectorRefusesEleven);
        quotes.test("6 Aims a projector.", ProjectorTest::aimIsToldAnew);
        quotes.test("6 - `from`", ProjectorTest::aimBeginsAnywhere);
        quotes.test("6 - `to`", ProjectorTest::aimCoversBothEnds);
        quotes.test("6 Throws `IndexOutOfBounds", ProjectorTest::aimRefusesProjectorsAndColumns);
        quotes.test("6 Throws `IllegalArgument", ProjectorTest::aimRefusesBelowAndTooFar);
    }

    private static void turnFailPhaseWind(Quotes quotes) {
        quotes.test("7 Switches a projector on or off.", ProjectorTest::turnSwitchesJustOne);
        quotes.test("7 Returns whether it was on.", ProjectorTest::turnAnswersWhatWas);
        quotes.test("7 Throws `IndexOutOfBounds", ProjectorTest::turnRefusesProjectors);
        quotes.test("7 Throws `IllegalState", ProjectorTest::turnKeepsWhatPhaseBears);
        quotes.test("8 Lets a lamp fail, or mends it.", ProjectorTest::failTakesLight);
        quotes.test("8 Returns whether it had failed.", ProjectorTest::failAnswersWhatWas);
        quotes.test("8 Throws `IndexOutOfBounds", ProjectorTest::failRefusesProjectors);
        quotes.test("9 Tells what a phase bears, for what is switched on from now on.", ProjectorTest::phaseIsForLater);
        quotes.test("9 - `power`", ProjectorTest::phaseBearsNothingOrMuch);
        quotes.test("9 Returns what it bore.", ProjectorTest::phaseTells);
        quotes.test("9 Throws `IllegalArgument", ProjectorTest::phaseRefuses);
        quotes.test("10 Tells the wind.", ProjectorTest::windShifts);
        quotes.test("10 - `wind`", ProjectorTest::windHasItsEnds);
        quotes.test("10 Returns the wind before.", ProjectorTest::windTells);
        quotes.test("10 Throws `IllegalArgument", ProjectorTest::windRefuses);
    }

    private static void raysAndLight(Quotes quotes) {
        quotes.test("11 Returns the column of the cell through which", ProjectorTest::throughRounds,
                ProjectorTest::throughEndsAtTheSquare);
        quotes.test("11 Returns the column; NONE", ProjectorTest::throughNeedsRowBetween,
                ProjectorTest::throughWithNoRowBetween);
        quotes.test("11 Throws `IndexOutOfBounds", ProjectorTest::throughRefuses);
        quotes.test("12 Returns the light that a projector gives to a column, if it is on, failed or not.",
                ProjectorTest::givesByDistance);
        quotes.test("12 Returns the light; 0 if it does not cover it, or the ray is blocked.",
                ProjectorTest::givesNothingBesideItsAim, ProjectorTest::givesNothingThroughMast);
        quotes.test("12 Throws `IndexOutOfBounds", ProjectorTest::givesRefuses);
        quotes.test("13 Tells whether a projector is sharp", ProjectorTest::sharpnessIsOneAround,
                ProjectorTest::sharpnessIsOfThePlacesAlone);
        quotes.test("13 Throws `IndexOutOfBounds", ProjectorTest::sharpnessRefuses);
        quotes.test("14 Returns the light of a column now.", ProjectorTest::lightAddsUp);
        quotes.test("14 Throws `IndexOutOfBounds", ProjectorTest::lightRefuses);
        quotes.test("15 Returns the light that a projector gives to a column as it is blended now.",
                ProjectorTest::blendedKeepsLevel, ProjectorTest::blendedOfGreatNumbers);
        quotes.test("15 Returns the light; 0 if it is off, or failed.", ProjectorTest::blendedOfDarkLamps);
        quotes.test("15 Throws `IndexOutOfBounds", ProjectorTest::blendedRefuses);
    }

    private static void projectorHasItsRows() {
        FacadeShow x = new FacadeShow();
        for (int row = 3; row <= 11; row++) {
            CHECK.due("row " + row, x.projector(4, row, 1, 0, 1), row - 3);
            CHECK.due("just before it", x.through(row - 3, 4, row - 1), 4);
            CHECK.due("at it", x.through(row - 3, 4, row), FacadeShow.NONE);
        }
    }

    private static void projectorHasItsPower() {
        FacadeShow x = new FacadeShow();
        x.projector(0, 3, 1, 0, 1);
        x.projector(0, 4, 9999, 1, 1);
        x.turn(0, true);
        x.pass(1);
        CHECK.due("the least", x.show(3), 1);
        x.turn(1, true);
        x.pass(1);
        CHECK.due("the most", x.show(3), 10001);
    }

    private static void projectorHasItsPhase() {
        for (int phase = 0; phase < 3; phase++) {
            FacadeShow x = new FacadeShow();
            x.projector(0, 3, 1, phase, 1);
            x.phase((phase + 1) % 3, 0);
            x.phase((phase + 2) % 3, 0);
            CHECK.due("the others bear nothing", x.turn(0, true), false);
            x.turn(0, false);
            x.phase(phase, 0);
            CHECK.badState("it bears nothing", () -> x.turn(0, true) ? 1 : 0);
        }
    }

    private static void projectorHasItsFocus() {
        for (int focus = 1; focus <= 11; focus++) {
            for (int row = 3; row <= 11; row++) {
                FacadeShow x = new FacadeShow();
                x.projector(0, row, 1, 0, focus);
                boolean due = row - focus >= -1 && row - focus <= 1;
                CHECK.due("focus " + focus + ", row " + row, x.isSharp(0, 0), due);
            }
        }
    }

    private static void projectorsAreNumbered() {
        FacadeShow x = new FacadeShow();
        for (int number = 0; number < 10; number++) {
            CHECK.due("number", x.projector(number, 3 + number % 9, 1 + number, number % 3, 1 + number), number);
            CHECK.badState("a refused one has none", () -> x.projector(0, 3, 1, 0, 1));
        }
        FacadeShow edges = new FacadeShow();
        CHECK.due("low edges", edges.projector(0, 3, 1, 0, 1), 0);
        CHECK.due("high edges", edges.projector(15, 11, 9999, 2, 11), 1);
    }

    private static void projectorRefusesColumnsAndRows() {
        CHECK.numbers("column", 0, 15, column -> new FacadeShow().projector(column, 3, 1, 0, 1));
        CHECK.numbers("row", 3, 11, row -> new FacadeShow().projector(0, row, 1, 0, 1));
        FacadeShow x = new FacadeShow();
        CHECK.noSuch("row 0", () -> x.projector(0, 0, 1, 0, 1));
        CHECK.noSuch("cell first", () -> x.projector(0, 12, 0, 3, 0));
        CHECK.noSuch("nothing set up", () -> x.gives(0, 0));
    }

    private static void projectorCoversNothing() {
        FacadeShow x = new FacadeShow();
        x.projector(3, 3, 9999, 0, 3);
        for (int wind = 0; wind <= 8; wind++) {
            x.wind(wind);
            for (int column = 0; column < 16; column++) {
                CHECK.due("covers no column", x.gives(0, column), 0);
            }
        }
        CHECK.due("off", x.show(5), 0);
        CHECK.due("was off", x.turn(0, false), false);
        CHECK.due("has not failed", x.fail(0, false), false);
        CHECK.due("ready for 0", x.ready(0, 0), 0);
    }

    private static void projectorRefusesArguments() {
        CHECK.range("power", 1, 9999, power -> new FacadeShow().projector(0, 3, power, 0, 1));
        CHECK.range("phase", 0, 2, phase -> new FacadeShow().projector(0, 3, 1, phase, 1));
        CHECK.range("focus", 1, 11, focus -> new FacadeShow().projector(0, 3, 1, 0, focus));
        FacadeShow x = new FacadeShow();
        CHECK.badArgument("all three", () -> x.projector(0, 3, 0, 3, 0));
        CHECK.due("no mast", x.cell(0, 3, 0), FacadeShow.EMPTY);
        CHECK.due("first number", x.projector(0, 3, 1, 0, 1), 0);
    }

    private static void projectorRefusesEleven() {
        FacadeShow x = new FacadeShow();
        for (int number = 0; number < 9; number++) {
            x.projector(number, 3, 1, 0, 1);
        }
        CHECK.due("the tenth", x.projector(9, 3, 1, 0, 1), 9);
        CHECK.badState("the eleventh", () -> x.projector(15, 11, 9999, 2, 11));
        CHECK.due("no mast of the eleventh", x.cell(15, 11, 0), FacadeShow.EMPTY);
        CHECK.badArgument("argument before count", () -> x.projector(15, 11, 0, 2, 11));
        CHECK.noSuch("there is no projector 10", () -> x.gives(10, 0));
    }

    private static void projectorRefusesCells() {
        FacadeShow x = new FacadeShow();
        for (int what = 1; what <= 3; what++) {
            x.cell(4, 4, what);
            CHECK.badState("not empty", () -> x.projector(4, 4, 1, 0, 1));
            CHECK.badArgument("argument before cell", () -> x.projector(4, 4, 1, 0, 12));
        }
        x.cell(4, 4, FacadeShow.EMPTY);
        CHECK.due("empty again", x.projector(4, 4, 1, 0, 1), 0);
        CHECK.badState("has a mast", () -> x.projector(4, 4, 1, 0, 1));
        CHECK.due("next number", x.projector(4, 5, 1, 0, 1), 1);
    }

    private static int columnsGiven(FacadeShow x, int projector) {
        int columns = 0;
        for (int column = 0; column < 16; column++) {
            if (x.gives(projector, column) > 0) {
                columns |= 1 << column;
            }
        }
        return columns;
    }

    private static void aimCoversBothEnds() {
        FacadeShow x = new FacadeShow();
        x.projector(3, 3, 9999, 0, 3);
        x.aim(0, 0, 7);
        CHECK.due("0 to 7", columnsGiven(x, 0), 0x00ff);
        x.aim(0, 8, 15);
        CHECK.due("8 to 15", columnsGiven(x, 0), 0xff00);
        x.aim(0, 5, 5);
        CHECK.due("one", columnsGiven(x, 0), 0x0020);
        x.aim(0, 15, 15);
        CHECK.due("the last", columnsGiven(x, 0), 0x8000);
        x.aim(0, 0, 0);
        CHECK.due("the first", columnsGiven(x, 0), 0x0001);
        x.projector(4, 4, 9999, 0, 3);
        x.aim(1, 2, 4);
        CHECK.due("its own", columnsGiven(x, 0), 0x0001);
    }

    private static void aimIsToldAnew() {
        FacadeShow x = new FacadeShow();
        x.projector(3, 3, 9999, 0, 3);
        x.aim(0, 0, 7);
        x.aim(0, 6, 6);
        CHECK.due("only as told last", columnsGiven(x, 0), 0x0040);
        x.turn(0, true);
        x.aim(0, 9, 10);
        CHECK.due("on or off", columnsGiven(x, 0), 0x0600);
    }

    private static void aimBeginsAnywhere() {
        for (int from = 0; from < 16; from++) {
            FacadeShow x = new FacadeShow();
            x.projector(3, 3, 9999, 0, 3);
            x.aim(0, from, from);
            CHECK.due("one from " + from, columnsGiven(x, 0), 1 << from);
            int most = Math.min(15, from + 7);
            x.aim(0, from, most);
            CHECK.due("most from " + from, columnsGiven(x, 0), (2 << most) - (1 << from));
        }
    }

    private static void aimRefusesProjectorsAndColumns() {
        FacadeShow x = new FacadeShow();
        x.projector(3, 3, 9999, 0, 3);
        x.projector(4, 3, 9999, 0, 3);
        CHECK.numbers("projector", 0, 1, projector -> { x.aim(projector, 2, 4); return 0; });
        CHECK.numbers("from", 0, 15, from -> { x.aim(0, from, Math.max(0, Math.min(from, 15))); return 0; });
        CHECK.numbers("to", 0, 15, to -> { x.aim(0, Math.max(0, Math.min(to, 15)), to); return 0; });
        CHECK.noSuch("from 16", () -> { x.aim(0, 16, 15); return 0; });
        CHECK.noSuch("to 16", () -> { x.aim(0, 15, 16); return 0; });
        CHECK.noSuch("to 16, too far", () -> { x.aim(0, 3, 16); return 0; });
        CHECK.noSuch("to -1", () -> { x.aim(0, 3, -1); return 0; });
    }

    private static void aimRefusesBelowAndTooFar() {
        FacadeShow x = new FacadeShow();
        x.projector(3, 3, 9999, 0, 3);
        x.aim(0, 2, 4);
        for (int from = 0; from < 16; from++) {
            for (int to = 0; to < 16; to++) {
                int begin = from;
                int end = to;
                Check.Call call = () -> { x.aim(0, begin, end); return 0; };
                if (to < from || to > from + 7) {
                    CHECK.badArgument("from " + from + " to " + to, call);
                } else {
                    CHECK.throwing("from " + from + " to " + to, null, call);
                }
            }
        }
    }

    private static void turnSwitchesJustOne() {
        FacadeShow x = new FacadeShow();
        for (int number = 0; number < 10; number++) {
            x.projector(number, 10, 167, number % 3, 10);
            x.aim(number, number, number);
        }
        for (int number = 0; number < 10; number++) {
            x.turn(number, true);
            CHECK.due("that are on", x.show(5), number + 1);
            CHECK.due("it gives light", x.light(number), 100);
            CHECK.due("the next does not", x.light(number + 1), 0);
        }
        x.turn(0, false);
        CHECK.due("one less", x.show(5), 9);
        CHECK.due("it gives no light", x.light(0), 0);
        CHECK.due("the next does", x.light(1), 100);
    }

    private static void turnAnswersWhatWas() {
        FacadeShow x = new FacadeShow();
        x.projector(3, 3, 9999, 0, 3);
        CHECK.due("off at first", x.turn(0, false), false);
        CHECK.due("on", x.turn(0, true), false);
        CHECK.due("on again", x.turn(0, true), true);
        CHECK.due("one is on", x.show(5), 1);
        x.fail(0, true);
        CHECK.due("on, though failed", x.turn(0, true), true);
        CHECK.due("off", x.turn(0, false), true);
        CHECK.due("off again", x.turn(0, false), false);
        CHECK.due("none is on", x.show(5), 0);
    }

    private static void turnRefusesProjectors() {
        FacadeShow x = new FacadeShow();
        CHECK.noSuch("none yet", () -> x.turn(0, false) ? 1 : 0);
        x.projector(3, 3, 1, 0, 3);
        x.projector(4, 3, 1, 0, 3);
        CHECK.numbers("on", 0, 1, projector -> x.turn(projector, true) ? 1 : 0);
        CHECK.numbers("off", 0, 1, projector -> x.turn(projector, false) ? 1 : 0);
    }

    private static void turnKeepsWhatPhaseBears() {
        FacadeShow x = new FacadeShow();
        x.projector(0, 5, 6000, 1, 5);
        x.projector(1, 5, 3999, 1, 5);
        x.projector(2, 5, 1, 1, 5);
        x.projector(3, 5, 9999, 2, 5);
        CHECK.due("first", x.turn(0, true), false);
        CHECK.due("just what it bears", x.turn(1, true), false);
        CHECK.badState("one more", () -> x.turn(2, true) ? 1 : 0);
        CHECK.due("it is off still", x.turn(2, false), false);
        CHECK.due("another phase", x.turn(3, true), false);
        x.fail(0, true);
        CHECK.badState("a failed one counts", () -> x.turn(2, true) ? 1 : 0);
        x.phase(1, 0);
        CHECK.due("on already", x.turn(1, true), true);
        CHECK.badState("bears nothing", () -> x.turn(2, true) ? 1 : 0);
        x.phase(1, 9999);
        x.turn(1, false);
        CHECK.due("room again", x.turn(2, true), false);
        x.phase(1, 10000);
        CHECK.due("bears more", x.turn(1, true), false);
        x.turn(1, false);
        x.turn(0, false);
        x.turn(2, false);
        x.phase(1, 3998);
        CHECK.badState("alone too much", () -> x.turn(1, true) ? 1 : 0);
    }

    private static void failTakesLight() {
        FacadeShow x = new FacadeShow();
        x.projector(5, 10, 167, 0, 10);
        x.aim(0, 5, 5);
        x.turn(0, true);
        CHECK.due("light", x.light(5), 100);
        x.fail(0, true);
        CHECK.due("no light", x.light(5), 0);
        CHECK.due("on still", x.show(5), 1);
        CHECK.due("gives all the same", x.gives(0, 5), 100);
        x.turn(0, false);
        x.turn(0, true);
        CHECK.due("no light till mended", x.light(5), 0);
        x.fail(0, false);
        CHECK.due("light again", x.light(5), 100);
        x.turn(0, false);
        x.fail(0, true);
        x.fail(0, false);
        CHECK.due("off still", x.light(5), 0);
    }

    private static void failAnswersWhatWas() {
        FacadeShow x = new FacadeShow();
        x.projector(5, 10, 167, 0, 10);
        x.projector(6, 10, 167, 0, 10);
        CHECK.due("not at first", x.fail(0, false), false);
        CHECK.due("fails", x.fail(0, true), false);
        CHECK.due("fails again", x.fail(0, true), true);
        CHECK.due("mended", x.fail(0, false), true);
        CHECK.due("mended again", x.fail(0, false), false);
        x.fail(0, true);
        CHECK.due("another one", x.fail(1, false), false);
    }

    private static void failRefusesProjectors() {
        FacadeShow x = new FacadeShow();
        CHECK.noSuch("none yet", () -> x.fail(0, true) ? 1 : 0);
        x.projector(5, 10, 167, 0, 10);
        x.projector(6, 10, 167, 0, 10);
        CHECK.numbers("fail", 0, 1, projector -> x.fail(projector, true) ? 1 : 0);
        CHECK.numbers("mend", 0, 1, projector -> x.fail(projector, false) ? 1 : 0);
    }

    private static void phaseIsForLater() {
        FacadeShow x = new FacadeShow();
        x.projector(0, 3, 8, 2, 3);
        x.turn(0, true);
        x.phase(2, 0);
        CHECK.due("what is on stays on", x.show(5), 1);
        x.turn(0, false);
        CHECK.badState("from now on", () -> x.turn(0, true) ? 1 : 0);
        x.phase(2, 8);
        CHECK.due("just so much", x.turn(0, true), false);
    }

    private static void phaseBearsNothingOrMuch() {
        FacadeShow x = new FacadeShow();
        for (int number = 0; number < 10; number++) {
            x.projector(number, 3, number == 9 ? 9 : 9999, 1, 3);
        }
        x.phase(1, 99999);
        for (int number = 0; number < 10; number++) {
            CHECK.due("much", x.turn(number, true), false);
        }
        x.turn(9, false);
        x.phase(1, 9 * 9999 + 8);
        CHECK.badState("one less than it needs", () -> x.turn(9, true) ? 1 : 0);
        FacadeShow none = new FacadeShow();
        none.projector(0, 3, 1, 0, 3);
        none.phase(0, 0);
        CHECK.badState("nothing", () -> none.turn(0, true) ? 1 : 0);
        none.phase(0, 1);
        CHECK.due("the least", none.turn(0, true), false);
    }

    private static void phaseTells() {
        FacadeShow x = new FacadeShow();
        for (int phase = 0; phase < 3; phase++) {
            CHECK.due("first", x.phase(phase, 0), 9999);
            CHECK.due("then", x.phase(phase, 99999), 0);
            CHECK.due("at last", x.phase(phase, 7 + phase), 99999);
        }
        for (int phase = 0; phase < 3; phase++) {
            CHECK.due("its own", x.phase(phase, 1), 7 + phase);
        }
    }

    private static void phaseRefuses() {
        FacadeShow x = new FacadeShow();
        CHECK.range("phase", 0, 2, phase -> x.phase(phase, 0));
        CHECK.range("power", 0, 99999, power -> x.phase(0, power));
        CHECK.badArgument("both", () -> x.phase(3, -1));
    }

    private static void windShifts() {
        FacadeShow x = new FacadeShow();
        x.projector(3, 3, 9999, 0, 3);
        x.projector(9, 3, 9999, 0, 3);
        x.aim(0, 2, 4);
        x.aim(1, 12, 15);
        int[] first = {0x1c, 0x1c, 0x1c, 0x1c, 0x38, 0x70, 0xe0, 0x1c0, 0x380};
        int[] second = {0xf000, 0xf000, 0xf000, 0xf000, 0xe000, 0xc000, 0x8000, 0, 0};
        for (int wind = 0; wind <= 8; wind++) {
            CHECK.due("wind before", x.wind(wind), wind == 0 ? 0 : wind - 1);
            CHECK.due("shifted by " + wind, columnsGiven(x, 0), first[wind]);
            CHECK.due("lost by " + wind, columnsGiven(x, 1), second[wind]);
        }
        CHECK.due("back", x.wind(0), 8);
        CHECK.due("as aimed", columnsGiven(x, 1), 0xf000);
    }

    private static void windHasItsEnds() {
        FacadeShow x = new FacadeShow();
        x.projector(3, 3, 9999, 0, 3);
        x.aim(0, 2, 4);
        x.wind(8);
        CHECK.due("the most", columnsGiven(x, 0), 0x380);
        x.wind(0);
        CHECK.due("none", columnsGiven(x, 0), 0x1c);
    }

    private static void windTells() {
        FacadeShow x = new FacadeShow();
        CHECK.due("at first", x.wind(8), 0);
        CHECK.due("then", x.wind(8), 8);
        CHECK.due("the same again", x.wind(3), 8);
        CHECK.due("at last", x.wind(0), 3);
    }

    private static void windRefuses() {
        FacadeShow x = new FacadeShow();
        CHECK.range("wind", 0, 8, wind -> x.wind(wind));
    }

    private static void throughRounds() {
        FacadeShow x = new FacadeShow();
        x.projector(4, 8, 1, 0, 1);
        int[] toFive = {5, 5, 5, 5, 4, 4, 4};
        int[] toThree = {3, 3, 3, 4, 4, 4, 4};
        int[] toFifteen = {14, 12, 11, 10, 8, 7, 5};
        int[] toNought = {1, 1, 2, 2, 3, 3, 4};
        int[] toSeven = {7, 6, 6, 6, 5, 5, 4};
        int[] toOne = {1, 2, 2, 3, 3, 3, 4};
        for (int row = 1; row < 8; row++) {
            CHECK.due("to 4 in row " + row, x.through(0, 4, row), 4);
            CHECK.due("to 5 in row " + row, x.through(0, 5, row), toFive[row - 1]);
            CHECK.due("to 3 in row " + row, x.through(0, 3, row), toThree[row - 1]);
            CHECK.due("to 15 in row " + row, x.through(0, 15, row), toFifteen[row - 1]);
            CHECK.due("to 0 in row " + row, x.through(0, 0, row), toNought[row - 1]);
            CHECK.due("to 7 in row " + row, x.through(0, 7, row), toSeven[row - 1]);
            CHECK.due("to 1 in row " + row, x.through(0, 1, row), toOne[row - 1]);
        }
    }

    private static void throughNeedsRowBetween() {
        FacadeShow x = new FacadeShow();
        x.projector(4, 8, 1, 0, 1);
        x.column(6, 2, FacadeShow.STONE);
        x.column(7, 1, FacadeShow.STONE);
        for (int row = 8; row < 12; row++) {
            CHECK.due("row beyond the projector", x.through(0, 4, row), FacadeShow.NONE);
        }
        CHECK.due("row of what is seen", x.through(0, 4, 0), FacadeShow.NONE);
        CHECK.due("row of relief 1", x.through(0, 7, 1), FacadeShow.NONE);
        CHECK.due("row before relief 1", x.through(0, 7, 2), 7);
        CHECK.due("row in relief 2", x.through(0, 6, 1), FacadeShow.NONE);
        CHECK.due("row of relief 2", x.through(0, 6, 2), FacadeShow.NONE);
        CHECK.due("row before relief 2", x.through(0, 6, 3), 6);
        CHECK.due("half way to relief 2", x.through(0, 6, 5), 5);
    }

    private static void throughEndsAtTheSquare() {
        FacadeShow x = new FacadeShow();
        x.projector(0, 11, 1, 0, 1);
        x.projector(15, 11, 1, 0, 1);
        int[] toFifteen = {14, 12, 11, 10, 8, 7, 5, 4, 3, 1};
        int[] toNought = {1, 3, 4, 5, 7, 8, 10, 11, 12, 14};
        for (int row = 1; row < 11; row++) {
            CHECK.due("column 0 in row " + row, x.through(0, 0, row), 0);
            CHECK.due("column 15 in row " + row, x.through(1, 15, row), 15);
            CHECK.due("from 0 to 15 in row " + row, x.through(0, 15, row), toFifteen[row - 1]);
            CHECK.due("from 15 to 0 in row " + row, x.through(1, 0, row), toNought[row - 1]);
        }
    }

    private static void throughWithNoRowBetween() {
        FacadeShow x = new FacadeShow();
        x.projector(0, 3, 1, 0, 1);
        x.column(0, 2, FacadeShow.STONE);
        x.column(1, 1, FacadeShow.STONE);
        for (int row = 0; row < 12; row++) {
            CHECK.due("row " + row + " next to it", x.through(0, 0, row), FacadeShow.NONE);
            CHECK.due("row " + row + " of one between", x.through(0, 1, row), row == 2 ? 1 : FacadeShow.NONE);
        }
        x.aim(0, 0, 0);
        CHECK.due("no cell to block it", x.gives(0, 0), 60);
    }

    private static void throughRefuses() {
        FacadeShow x = new FacadeShow();
        CHECK.noSuch("none yet", () -> x.through(0, 0, 0));
        x.projector(4, 8, 1, 0, 1);
        x.projector(5, 8, 1, 0, 1);
        CHECK.numbers("projector", 0, 1, projector -> x.through(projector, 0, 0));
        CHECK.numbers("column", 0, 15, column -> x.through(0, column, 0));
        CHECK.numbers("row", 0, 11, row -> x.through(0, 0, row));
    }

    private static void givesByDistance() {
        FacadeShow x = new FacadeShow();
        x.projector(4, 8, 200, 0, 8);
        x.aim(0, 2, 6);
        int[] due = {0, 0, 176, 184, 187, 184, 176, 0, 0, 0, 0, 0, 0, 0, 0, 0};
        for (int column = 0; column < 16; column++) {
            CHECK.due("column " + column, x.gives(0, column), due[column]);
        }
        x.fail(0, true);
        CHECK.due("off and failed", x.gives(0, 4), 187);
        x.projector(0, 3, 9999, 0, 3);
        x.column(0, 2, FacadeShow.STONE);
        x.aim(1, 0, 0);
        CHECK.due("the most", x.gives(1, 0), 599940);
        x.projector(15, 11, 1, 0, 11);
        x.aim(2, 15, 15);
        CHECK.due("less than one", x.gives(2, 15), 0);
    }

    private static void givesNothingThroughMast() {
        FacadeShow x = new FacadeShow();
        x.projector(4, 8, 200, 0, 8);
        x.aim(0, 4, 4);
        x.projector(4, 9, 200, 0, 8);
        CHECK.due("mast behind", x.gives(0, 4), 187);
        x.projector(4, 3, 200, 0, 8);
        CHECK.due("mast before", x.gives(0, 4), 0);
        CHECK.due("goes on as a ray", x.through(0, 4, 3), 4);
    }

    private static void givesNothingBesideItsAim() {
        FacadeShow x = new FacadeShow();
        x.projector(7, 3, 9999, 0, 3);
        CHECK.due("not aimed", columnsGiven(x, 0), 0);
        x.aim(0, 6, 8);
        CHECK.due("just before", x.gives(0, 5), 0);
        CHECK.isTrue("the first", x.gives(0, 6) > 0);
        CHECK.isTrue("the last", x.gives(0, 8) > 0);
        CHECK.due("just behind", x.gives(0, 9), 0);
        x.cell(7, 4, FacadeShow.TREE);
        CHECK.isTrue("a tree behind it", x.gives(0, 6) > 0);
        x.column(8, 2, FacadeShow.STONE);
        CHECK.due("what is seen of a relief", x.gives(0, 8), 299970);
    }

    private static void givesRefuses() {
        FacadeShow x = new FacadeShow();
        CHECK.noSuch("none yet", () -> x.gives(0, 0));
        x.projector(4, 8, 1, 0, 1);
        x.projector(5, 8, 1, 0, 1);
        CHECK.numbers("projector", 0, 1, projector -> x.gives(projector, 0));
        CHECK.numbers("column", 0, 15, column -> x.gives(0, column));
    }

    private static void sharpnessIsOneAround() {
        for (int focus = 1; focus <= 11; focus++) {
            FacadeShow x = new FacadeShow();
            x.projector(4, 8, 1, 0, focus);
            x.cell(4, 5, FacadeShow.TREE);
            for (int relief = 0; relief <= 2; relief++) {
                x.column(4, relief, FacadeShow.GLASS);
                x.column(15, relief, FacadeShow.STONE);
                int rows = 8 - relief;
                boolean due = focus == rows || focus == rows - 1 || focus == rows + 1;
                CHECK.due("focus " + focus + " over " + rows, x.isSharp(0, 4), due);
                CHECK.due("aside, focus " + focus + " over " + rows, x.isSharp(0, 15), due);
            }
        }
    }

    private static void sharpnessIsOfThePlacesAlone() {
        FacadeShow x = new FacadeShow();
        x.projector(4, 8, 100, 0, 8);
        x.aim(0, 3, 5);
        CHECK.due("off", x.isSharp(0, 4), true);
        x.turn(0, true);
        CHECK.due("on", x.isSharp(0, 4), true);
        x.fail(0, true);
        CHECK.due("failed", x.isSharp(0, 4), true);
        x.wind(8);
        CHECK.due("no more covered", x.isSharp(0, 4), true);
        CHECK.due("covered now", x.isSharp(0, 9), true);
        x.cell(4, 4, FacadeShow.TREE);
        CHECK.due("blocked", x.isSharp(0, 4), true);
        x.column(4, 2, FacadeShow.STONE);
        CHECK.due("too near", x.isSharp(0, 4), false);
    }

    private static void sharpnessRefuses() {
        FacadeShow x = new FacadeShow();
        CHECK.noSuch("none yet", () -> x.isSharp(0, 0) ? 1 : 0);
        x.projector(4, 8, 1, 0, 1);
        x.projector(5, 8, 1, 0, 1);
        CHECK.numbers("projector", 0, 1, projector -> x.isSharp(projector, 0) ? 1 : 0);
        CHECK.numbers("column", 0, 15, column -> x.isSharp(0, column) ? 1 : 0);
    }

    private static void lightAddsUp() {
        FacadeShow x = new FacadeShow();
        x.projector(4, 8, 200, 0, 8);
        x.projector(5, 8, 200, 0, 1);
        x.projector(6, 8, 200, 0, 8);
        x.aim(0, 4, 4);
        x.aim(1, 4, 5);
        x.aim(2, 6, 6);
        CHECK.due("all off", x.light(4), 0);
        x.turn(0, true);
        CHECK.due("one", x.light(4), 187);
        x.turn(1, true);
        x.turn(2, true);
        CHECK.due("two, one unsharp", x.light(4), 187 + 184);
        CHECK.due("another column", x.light(6), 187);
        x.fail(0, true);
        CHECK.due("one failed", x.light(4), 184);
        x.turn(1, false);
        CHECK.due("none left", x.light(4), 0);
    }

    private static void blendedKeepsLevel() {
        FacadeShow x = new FacadeShow();
        x.projector(4, 8, 200, 0, 8);
        x.projector(5, 8, 200, 0, 8);
        x.aim(0, 4, 5);
        x.aim(1, 4, 4);
        CHECK.due("off", x.blended(0, 4), 0);
        x.turn(0, true);
        CHECK.due("one alone", x.blended(0, 4), 100);
        CHECK.due("the other off", x.blended(1, 4), 0);
        x.turn(1, true);
        CHECK.due("one of two", x.blended(0, 4), 50);
        CHECK.due("the other of two", x.blended(1, 4), 49);
        CHECK.due("not covered", x.blended(1, 5), 0);
        x.need(0, 371);
        CHECK.due("just the level", x.blended(0, 4), 187);
        x.need(0, 370);
        CHECK.due("above the level", x.blended(0, 4), 186);
        x.need(0, 9999);
        CHECK.due("below the level", x.blended(1, 4), 184);
        x.need(0, 100);
        x.fail(1, true);
        CHECK.due("failed", x.blended(1, 4), 0);
        CHECK.due("without the failed one", x.blended(0, 4), 100);
    }

    private static void blendedOfGreatNumbers() {
        FacadeShow x = new FacadeShow();
        x.projector(0, 3, 9999, 0, 3);
        x.projector(1, 3, 9999, 1, 3);
        x.column(0, 2, FacadeShow.STONE);
        x.aim(0, 0, 0);
        x.aim(1, 0, 0);
        x.turn(0, true);
        x.turn(1, true);
        x.need(1, 9999);
        CHECK.due("great light", x.light(0), 599940 + 299970);
        CHECK.due("great share", x.blended(0, 0), 6666);
        CHECK.due("lesser share", x.blended(1, 0), 3333);
    }

    private static void blendedOfDarkLamps() {
        FacadeShow x = new FacadeShow();
        x.projector(4, 8, 200, 0, 8);
        x.aim(0, 4, 4);
        CHECK.due("off", x.blended(0, 4), 0);
        x.fail(0, true);
        CHECK.due("off and failed", x.blended(0, 4), 0);
        x.turn(0, true);
        CHECK.due("failed", x.blended(0, 4), 0);
        x.fail(0, false);
        CHECK.due("neither", x.blended(0, 4), 100);
        CHECK.due("not covered", x.blended(0, 5), 0);
        x.cell(4, 4, FacadeShow.TREE);
        CHECK.due("blocked", x.blended(0, 4), 0);
    }

    private static void lightRefuses() {
        FacadeShow x = new FacadeShow();
        CHECK.numbers("column", 0, 15, column -> x.light(column));
    }

    private static void blendedRefuses() {
        FacadeShow x = new FacadeShow();
        CHECK.noSuch("none yet", () -> x.blended(0, 0));
        x.projector(4, 8, 1, 0, 1);
        x.projector(5, 8, 1, 0, 1);
        CHECK.numbers("projector", 0, 1, projector -> x.blended(projector, 0));
        CHECK.numbers("column", 0, 15, column -> x.blended(0, column));
    }
}
