import java.io.IOException;

/** The document's "Terms", a sentence after the other: what is at its ends and beyond them. */
final class TermsTest {
    private static final Check CHECK = new Check("TermsTest");

    public static void main(String[] args) throws IOException {
        Quotes quotes = new Quotes(CHECK, Document.terms());
        generally(quotes);
        squareAndFront(quotes);
        projectorsAndRays(quotes);
        covers(quotes);
        breaches(quotes);
        framesAndScenes(quotes);
        quotes.end("Columns, cells, projectors, winds, lamps, frames, scenes and minutes are told");
    }

    private static void generally(Quotes quotes) {
        quotes.test("An object is used for at most 512 calls", TermsTest::callsAreRightToTheLast);
        quotes.test("A method throws IndexOutOfBoundsException if there is no such column, row, cell",
                TermsTest::noSuchThingComesFirst, TermsTest::argumentComesBeforeState);
        quotes.test("A call that throws changes nothing.", () -> Refusals.changeNothing(CHECK));
        quotes.test("Divisions are rounded down", TermsTest::divisionsAreRoundedDown);
        quotes.test("Time goes by minutes, from 0 on, to 99999.", TermsTest::timeHasItsEnds);
    }

    private static void squareAndFront(Quotes quotes) {
        quotes.test("There are the columns 0 to 15 and the rows 0 to 11.",
                TermsTest::columnsHaveTheirEnds, TermsTest::rowsHaveTheirEnds);
        quotes.test("The front of a column is as many rows deep as its relief",
                TermsTest::reliefIsFlatAtFirst, TermsTest::reliefHasItsEnds, TermsTest::onlyRowsBelowTheReliefAreStone);
        quotes.test("What is seen of it is the cell of the row of its relief",
                TermsTest::whatIsSeenIsAtTheRelief, TermsTest::surfacesGiveLightBack, TermsTest::surfaceIsStoneAtFirst);
        quotes.test("Each cell of the rows 3 to 11 is EMPTY, at first",
                TermsTest::cellsAreEmptyAtFirst, TermsTest::cellsHoldOneOfFour);
    }

    private static void projectorsAndRays(Quotes quotes) {
        quotes.test("Projectors are numbered from 0, at most 10",
                TermsTest::thereAreAtMostTen, TermsTest::mastNeedsAnEmptyCell, TermsTest::powerPhaseFocusHaveTheirEnds,
                TermsTest::aimHasBothEnds, TermsTest::aimHasAtMostEight, TermsTest::newOnesCoverNothing);
        quotes.test("It is off at first; a lamp that failed gives no light",
                TermsTest::lampIsOffAtFirst, TermsTest::failedLampIsDarkTillMended);
        quotes.test("With a wind of more than 3", TermsTest::windOfThreeShiftsNothing,
                TermsTest::windShiftsByWhatIsMore, TermsTest::columnsBeyondTheLastAreLost,
                TermsTest::windShiftsAllProjectors);
        quotes.test("The wind is 0 to 8, 0 at first.", TermsTest::windHasItsEnds);
        quotes.test("A ray goes from a projector to what is seen of a column.", TermsTest::rayEndsAtTheRelief);
        quotes.test("In each row between", TermsTest::halfGoesToTheGreaterColumn, TermsTest::lessThanHalfIsNearer,
                TermsTest::rayKeepsToItsEndColumns);
        quotes.test("It is blocked, if one of these cells is stone, a TREE, or has a mast.",
                TermsTest::treesBlockInEachRowBetween, TermsTest::mastsBlockInEachRowBetween,
                TermsTest::treesBesideDoNotBlock, TermsTest::stoneBlocks);
        quotes.test("PEOPLE and NESTs do not block it.", TermsTest::theLivingDoNotBlock);
        quotes.test("The light that a projector gives to a column", TermsTest::lightIsByTheSquares,
                TermsTest::lightIsRoundedTwice, TermsTest::lightHasItsEnds);
        quotes.test("It is sharp there", TermsTest::sharpnessEndsOneAway);
    }

    private static void covers(Quotes quotes) {
        quotes.test("The light of a column is that of all projectors that are on", TermsTest::lightIsOfNoneToAllTen);
        quotes.test("A column is well covered by a set of projectors", TermsTest::levelIsEnough,
                TermsTest::levelIsHundredAtFirst, TermsTest::eachThatGivesSomeIsSharp);
        quotes.test("The needed columns are told, none at first.", TermsTest::noColumnIsNeededAtFirst);
        quotes.test("The least set is that of the fewest projectors", TermsTest::leastSetMayBeOfNone,
                TermsTest::leastSetIsOfTheFewest, TermsTest::leastSetHasTheLeastNumber,
                TermsTest::leastSetMayBeOfAll, TermsTest::leastSetHasNoFailedOne);
        quotes.test("A set bears a failure", TermsTest::eachOneMayFail, TermsTest::emptySetHasNoneToFail);
        quotes.test("Where the light of a column is more than the level", TermsTest::onlyMoreThanTheLevelIsBlended,
                TermsTest::blendedIsRoundedDown);
    }

    private static void breaches(Quotes quotes) {
        quotes.test("A breach is a ray of a projector that is on", TermsTest::rayIsOneBreach,
                TermsTest::onlyRaysThatAreThereAreBreaches, TermsTest::onlyTheRowsBetweenAreBreached);
        quotes.test("In each minute that passes, as it begins, all breaches are counted",
                TermsTest::breachesAreCountedEachMinute, TermsTest::curfewHasItsEnds, TermsTest::curfewComesEachDay,
                TermsTest::curfewCountsWhatIsOn, TermsTest::thereIsNoCurfewAtFirst);
        quotes.test("The power of the projectors of a phase that are on", TermsTest::phaseBearsJustSoMuch,
                TermsTest::phaseBearsFailedOnes, TermsTest::phaseIsLookedAtWhenOneIsSwitchedOn);
        quotes.test("The energy is the power of all that are on", TermsTest::energyAddsUp);
    }

    private static void framesAndScenes(Quotes quotes) {
        quotes.test("Each projector has a machine that is ready for frames up to one",
                TermsTest::readyForNoughtAtFirst);
        quotes.test("The show is at a frame, 0 at first.", TermsTest::showBeginsAtFrameNought);
        quotes.test("In each minute that passes, as it ends, it goes on by one", TermsTest::frameEndsWhereAllAreReady,
                TermsTest::onlyLampsThatShineHold, TermsTest::heldIsCounted);
        quotes.test("With none it is held, too.", TermsTest::withNoneItIsHeld);
        quotes.test("There are the scenes 0 to 3", TermsTest::scenesHaveTheirEnds);
        quotes.test("A change is proposed, in place of what was proposed before", TermsTest::laterProposalCounts,
                TermsTest::ownerTakesOrRefuses);
    }

    // ---- objects that many tests use

    /** Projector 0, switched on, that gives just 100 to a flat stone column straight before it. */
    private static FacadeShow straight(int column) {
        FacadeShow x = new FacadeShow();
        x.projector(column, 10, 167, 0, 10);
        x.aim(0, column, column);
        x.turn(0, true);
        return x;
    }

    /** Projector 0, of much light, aimed at these columns. */
    private static FacadeShow aimed(int from, int to) {
        FacadeShow x = new FacadeShow();
        x.projector(7, 3, 9999, 0, 3);
        x.aim(0, from, to);
        return x;
    }

    /** Projectors before columns 0, 1 and so on that each give just 100 to their own. */
    private static FacadeShow side(int projectors) {
        FacadeShow x = new FacadeShow();
        for (int number = 0; number < projectors; number++) {
            x.projector(number, 10, 167, number % 3, 10);
            x.aim(number, number, number);
        }
        return x;
    }

    /** Projectors that each give column 0 just 30. */
    private static FacadeShow thirties(int projectors) {
        int[] powers = {50, 51, 52, 55, 58, 63, 68, 75, 82, 91};
        FacadeShow x = new FacadeShow();
        for (int number = 0; number < projectors; number++) {
            x.projector(number, 10, powers[number], 0, 10);
            x.aim(number, 0, 0);
            CHECK.due("gives 30", x.gives(number, 0), 30);
        }
        return x;
    }

    private static int columnsOf(FacadeShow x, int projector) {
        int columns = 0;
        for (int column = 0; column < 16; column++) {
            columns |= x.gives(projector, column) > 0 ? 1 << column : 0;
        }
        return columns;
    }

    // ---- generally

    private static void callsAreRightToTheLast() {
        FacadeShow asked = side(10);
        asked.need(1023, 100);
        for (int call = 22; call < 512; call++) {
            asked.least();
        }
        CHECK.due("the 512th call", asked.least(), 1023);
        FacadeShow passed = new FacadeShow();
        for (int call = 1; call <= 512; call++) {
            CHECK.due("call " + call, passed.pass(1), call);
        }
        FacadeShow refused = new FacadeShow();
        for (int call = 1; call < 512; call++) {
            CHECK.noSuch("call " + call, () -> refused.light(16));
        }
        CHECK.due("after 511 refused calls", refused.light(15), 0);
    }

    private static void noSuchThingComesFirst() {
        FacadeShow x = side(10);
        CHECK.noSuch("column, relief", () -> { x.column(16, 3, 0); return 0; });
        CHECK.noSuch("column, surface", () -> { x.column(-1, 0, 3); return 0; });
        CHECK.noSuch("cell column, what", () -> x.cell(16, 3, 4));
        CHECK.noSuch("cell row, what", () -> x.cell(0, 12, -1));
        CHECK.noSuch("projector column, power", () -> x.projector(16, 3, 0, 0, 1));
        CHECK.noSuch("projector row, phase", () -> x.projector(0, 2, 1, 3, 1));
        CHECK.noSuch("projector row, focus", () -> x.projector(0, 12, 1, 0, 12));
        CHECK.noSuch("projector column, there are 10", () -> x.projector(-1, 10, 1, 0, 1));
        CHECK.noSuch("aim projector, below", () -> { x.aim(10, 5, 4); return 0; });
        CHECK.noSuch("aim projector, too far", () -> { x.aim(-1, 0, 8); return 0; });
        CHECK.noSuch("aim from, below", () -> { x.aim(0, 16, 15); return 0; });
        CHECK.noSuch("aim from, too far", () -> { x.aim(0, -1, 15); return 0; });
        CHECK.noSuch("aim to, below", () -> { x.aim(0, 0, -1); return 0; });
        CHECK.noSuch("aim to, too far", () -> { x.aim(0, 0, 16); return 0; });
        CHECK.noSuch("ready", () -> x.ready(10, 100000));
        CHECK.noSuch("propose", () -> x.propose(4, 1000));
        CHECK.noSuch("answer", () -> x.answer(4, true));
        CHECK.noSuch("turn", () -> x.turn(10, true) ? 1 : 0);
    }

    private static void argumentComesBeforeState() {
        FacadeShow x = side(10);
        x.cell(15, 3, FacadeShow.TREE);
        CHECK.badArgument("cell with a mast", () -> x.cell(0, 10, 4));
        refusedArguments(x, "mast, there are 10", 0, 10);
        refusedArguments(x, "tree, there are 10", 15, 3);
        refusedArguments(x, "there are 10", 15, 4);
        FacadeShow one = straight(5);
        one.cell(6, 10, FacadeShow.NEST);
        refusedArguments(one, "mast", 5, 10);
        refusedArguments(one, "nest", 6, 10);
        for (int day = 0; day < 69; day++) {
            x.pass(1440);
        }
        CHECK.badArgument("pass beyond the end", () -> x.pass(1441));
        CHECK.badState("pass just beyond the end", () -> x.pass(640));
    }

    /** A projector in a cell that may not have it. */
    private static void refusedArguments(FacadeShow x, String why, int column, int row) {
        CHECK.badArgument("projector power, " + why, () -> x.projector(column, row, 0, 0, 1));
        CHECK.badArgument("projector phase, " + why, () -> x.projector(column, row, 1, 3, 1));
        CHECK.badArgument("projector focus, " + why, () -> x.projector(column, row, 1, 0, 12));
        CHECK.badState("projector, " + why, () -> x.projector(column, row, 1, 0, 1));
    }

    private static void divisionsAreRoundedDown() {
        FacadeShow x = new FacadeShow();
        x.projector(0, 10, 199, 0, 10);
        x.aim(0, 0, 1);
        x.turn(0, true);
        CHECK.due("119.4 hundredths", x.gives(0, 0), 119);
        CHECK.due("197.03 and then 118.2", x.gives(0, 1), 118);
        x.need(0, 60);
        CHECK.due("119 of 119 blended", x.blended(0, 0), 60);
        x.projector(3, 10, 199, 0, 10);
        x.aim(1, 0, 0);
        x.turn(1, true);
        CHECK.due("all of it", x.light(0), 119 + 109);
        CHECK.due("31.3 blended", x.blended(0, 0), 31);
        CHECK.due("28.7 blended", x.blended(1, 0), 28);
    }

    private static void timeHasItsEnds() {
        FacadeShow x = new FacadeShow();
        CHECK.due("at first", x.show(4), 0);
        for (int day = 0; day < 69; day++) {
            x.pass(1440);
        }
        CHECK.badState("above the last by one", () -> x.pass(640));
        CHECK.due("the last", x.pass(639), 99999);
        CHECK.badState("no more", () -> x.pass(1));
        CHECK.due("at last", x.show(4), 99999);
    }

    // ---- square and front

    private static void columnsHaveTheirEnds() {
        FacadeShow x = new FacadeShow();
        x.projector(7, 11, 9999, 0, 11);
        CHECK.numbers("column", 0, 15, c -> { x.column(c, 1, 1); return 0; });
        CHECK.numbers("cell", 0, 15, c -> x.cell(c, 5, 1));
        CHECK.numbers("projector", 0, 15, c -> x.projector(c, 6, 1, 0, 1));
        CHECK.numbers("aim from", 0, 15, c -> { x.aim(0, c, Math.max(0, Math.min(c, 15))); return 0; });
        CHECK.numbers("aim to", 0, 15, c -> { x.aim(0, Math.max(0, Math.min(c, 15)), c); return 0; });
        CHECK.numbers("through", 0, 15, c -> x.through(0, c, 6));
        CHECK.numbers("gives", 0, 15, c -> x.gives(0, c));
        CHECK.numbers("isSharp", 0, 15, c -> x.isSharp(0, c) ? 1 : 0);
        CHECK.numbers("light", 0, 15, c -> x.light(c));
        CHECK.numbers("blended", 0, 15, c -> x.blended(0, c));
        FacadeShow all = new FacadeShow();
        all.projector(0, 11, 9999, 0, 11);
        all.projector(15, 11, 9999, 1, 11);
        all.aim(0, 0, 7);
        all.aim(1, 8, 15);
        CHECK.due("columns covered", all.covered(3), 65535);
    }

    private static void rowsHaveTheirEnds() {
        FacadeShow x = new FacadeShow();
        x.projector(7, 11, 9999, 0, 11);
        CHECK.numbers("through", 0, 11, r -> x.through(0, 0, r));
        CHECK.due("the last row of a ray", x.through(0, 7, 10), 7);
        CHECK.due("the first row of a ray", x.through(0, 7, 1), 7);
        CHECK.numbers("cell", 3, 11, r -> x.cell(0, r, 1));
        CHECK.numbers("projector", 3, 11, r -> x.projector(1, r, 1, 0, 1));
    }

    private static void reliefIsFlatAtFirst() {
        FacadeShow x = new FacadeShow();
        x.projector(7, 11, 9999, 0, 11);
        for (int column = 0; column < 16; column++) {
            CHECK.due("row 0 is seen", x.through(0, column, 0), FacadeShow.NONE);
            CHECK.isTrue("row 1 is before it", x.through(0, column, 1) != FacadeShow.NONE);
        }
    }

    private static void reliefHasItsEnds() {
        FacadeShow x = new FacadeShow();
        x.projector(7, 11, 9999, 0, 11);
        CHECK.range("relief", 0, 2, relief -> { x.column(7, relief, 0); return 0; });
        for (int relief = 0; relief <= 2; relief++) {
            x.column(7, relief, FacadeShow.STONE);
            CHECK.due("row of relief " + relief, x.through(0, 7, relief), FacadeShow.NONE);
            CHECK.due("row before relief " + relief, x.through(0, 7, relief + 1), 7);
        }
    }

    private static void onlyRowsBelowTheReliefAreStone() {
        FacadeShow x = new FacadeShow();
        x.projector(0, 3, 9999, 0, 3);
        x.aim(0, 3, 3);
        CHECK.due("the ray's column in row 1", x.through(0, 3, 1), 2);
        x.column(2, 1, FacadeShow.STONE);
        CHECK.due("through the row of relief 1", x.gives(0, 3), 33330);
        x.column(2, 2, FacadeShow.STONE);
        CHECK.due("through the row below relief 2", x.gives(0, 3), 0);
        CHECK.due("the ray's column in row 2", x.through(0, 3, 2), 1);
        x.column(2, 0, FacadeShow.STONE);
        x.column(1, 2, FacadeShow.STONE);
        CHECK.due("through the row of relief 2", x.gives(0, 3), 33330);
    }

    private static void whatIsSeenIsAtTheRelief() {
        int[] lights = {100, 123, 156};
        for (int relief = 0; relief <= 2; relief++) {
            for (int column = 0; column < 16; column += 15) {
                FacadeShow x = straight(column);
                x.column(column, relief, FacadeShow.STONE);
                CHECK.due("column " + column + ", relief " + relief, x.gives(0, column), lights[relief]);
            }
        }
    }

    private static void surfacesGiveLightBack() {
        FacadeShow x = straight(5);
        CHECK.range("surface", FacadeShow.STONE, FacadeShow.GLASS, surface -> { x.column(5, 0, surface); return 0; });
        int[] lights = {100, 66, 0};
        for (int surface = FacadeShow.STONE; surface <= FacadeShow.GLASS; surface++) {
            x.column(5, 0, surface);
            CHECK.due("surface " + surface, x.gives(0, 5), lights[surface]);
        }
    }

    private static void surfaceIsStoneAtFirst() {
        for (int column = 0; column < 16; column++) {
            CHECK.due("column " + column, straight(column).light(column), 100);
        }
    }

    private static void cellsAreEmptyAtFirst() {
        FacadeShow x = new FacadeShow();
        for (int column = 0; column < 16; column++) {
            for (int row = 3; row <= 11; row++) {
                CHECK.due("cell " + column + ", " + row, x.cell(column, row, FacadeShow.TREE), FacadeShow.EMPTY);
            }
        }
    }

    private static void cellsHoldOneOfFour() {
        FacadeShow x = new FacadeShow();
        CHECK.range("what", FacadeShow.EMPTY, FacadeShow.NEST, what -> x.cell(0, 3, what));
        for (int column = 0; column < 16; column += 15) {
            for (int row = 3; row <= 11; row += 8) {
                x.cell(column, row, FacadeShow.EMPTY);
                CHECK.due("empty", x.cell(column, row, FacadeShow.TREE), FacadeShow.EMPTY);
                CHECK.due("tree", x.cell(column, row, FacadeShow.PEOPLE), FacadeShow.TREE);
                CHECK.due("people", x.cell(column, row, FacadeShow.NEST), FacadeShow.PEOPLE);
                CHECK.due("nest", x.cell(column, row, FacadeShow.NEST), FacadeShow.NEST);
            }
        }
    }

    // ---- projectors and rays

    private static void thereAreAtMostTen() {
        FacadeShow x = new FacadeShow();
        for (int number = 0; number < 10; number++) {
            int next = number;
            CHECK.noSuch("not yet " + number, () -> x.gives(next, 0));
            CHECK.due("number", x.projector(number, 5, 1, 0, 1), number);
            CHECK.due("now there is " + number, x.gives(number, 0), 0);
        }
        CHECK.badState("one more", () -> x.projector(10, 5, 1, 0, 1));
        CHECK.noSuch("no tenth", () -> x.gives(10, 0));
        CHECK.due("the last works", x.turn(9, true), false);
    }

    private static void mastNeedsAnEmptyCell() {
        FacadeShow x = new FacadeShow();
        CHECK.due("row 3", x.projector(0, 3, 1, 0, 1), 0);
        CHECK.due("row 11", x.projector(15, 11, 1, 0, 1), 1);
        CHECK.noSuch("row 2", () -> x.projector(0, 2, 1, 0, 1));
        CHECK.noSuch("row 12", () -> x.projector(15, 12, 1, 0, 1));
        CHECK.badState("a mast", () -> x.projector(0, 3, 1, 0, 1));
        CHECK.badState("another mast", () -> x.projector(15, 11, 1, 0, 1));
        for (int what = FacadeShow.TREE; what <= FacadeShow.NEST; what++) {
            x.cell(8, 7, what);
            CHECK.badState("what " + what, () -> x.projector(8, 7, 1, 0, 1));
        }
        x.cell(8, 7, FacadeShow.EMPTY);
        CHECK.due("empty again", x.projector(8, 7, 1, 0, 1), 2);
        CHECK.due("beside a mast", x.projector(8, 8, 1, 0, 1), 3);
    }

    private static void powerPhaseFocusHaveTheirEnds() {
        CHECK.range("power", 1, 9999, power -> new FacadeShow().projector(0, 3, power, 0, 1));
        CHECK.range("phase", 0, 2, phase -> new FacadeShow().projector(0, 3, 1, phase, 1));
        CHECK.range("focus", 1, 11, focus -> new FacadeShow().projector(0, 3, 1, 0, focus));
        FacadeShow x = new FacadeShow();
        x.projector(0, 3, 1, 0, 1);
        x.projector(15, 11, 9999, 2, 11);
        x.turn(0, true);
        x.turn(1, true);
        x.pass(1);
        CHECK.due("the least and the most power", x.show(3), 10000);
        CHECK.due("the greatest focus", x.isSharp(1, 0), true);
        x.column(0, 2, FacadeShow.STONE);
        CHECK.due("the least focus", x.isSharp(0, 0), true);
    }

    private static void aimHasBothEnds() {
        CHECK.due("in the middle", columnsOf(aimed(4, 9), 0), 0x03f0);
        CHECK.due("one", columnsOf(aimed(4, 4), 0), 0x0010);
        CHECK.due("the first", columnsOf(aimed(0, 0), 0), 0x0001);
        CHECK.due("the last", columnsOf(aimed(15, 15), 0), 0x8000);
    }

    private static void aimHasAtMostEight() {
        CHECK.due("eight first ones", columnsOf(aimed(0, 7), 0), 0x00ff);
        CHECK.due("eight in the middle", columnsOf(aimed(4, 11), 0), 0x0ff0);
        CHECK.due("eight last ones", columnsOf(aimed(8, 15), 0), 0xff00);
        FacadeShow x = aimed(1, 2);
        CHECK.badArgument("nine first ones", () -> { x.aim(0, 0, 8); return 0; });
        CHECK.badArgument("nine last ones", () -> { x.aim(0, 7, 15); return 0; });
        CHECK.badArgument("fewer than one", () -> { x.aim(0, 7, 6); return 0; });
    }

    private static void newOnesCoverNothing() {
        FacadeShow x = new FacadeShow();
        x.projector(7, 3, 9999, 0, 3);
        CHECK.due("no column", columnsOf(x, 0), 0);
        x.wind(8);
        CHECK.due("no column with a wind", columnsOf(x, 0), 0);
    }

    private static void lampIsOffAtFirst() {
        FacadeShow x = new FacadeShow();
        x.projector(5, 10, 167, 0, 10);
        x.aim(0, 5, 5);
        CHECK.due("no light", x.light(5), 0);
        CHECK.due("none is on", x.show(5), 0);
        CHECK.due("it was off", x.turn(0, true), false);
        CHECK.due("light", x.light(5), 100);
    }

    private static void failedLampIsDarkTillMended() {
        FacadeShow x = straight(5);
        CHECK.due("had not failed", x.fail(0, true), false);
        CHECK.due("on", x.light(5), 0);
        x.turn(0, false);
        CHECK.due("off", x.light(5), 0);
        x.turn(0, true);
        CHECK.due("on again", x.light(5), 0);
        x.fail(0, true);
        CHECK.due("failed again", x.light(5), 0);
        x.fail(0, false);
        CHECK.due("mended", x.light(5), 100);
    }

    private static void windOfThreeShiftsNothing() {
        FacadeShow x = aimed(2, 4);
        for (int wind = 0; wind <= 3; wind++) {
            x.wind(wind);
            CHECK.due("wind " + wind, columnsOf(x, 0), 0x001c);
        }
    }

    private static void windShiftsByWhatIsMore() {
        FacadeShow x = aimed(0, 7);
        for (int wind = 4; wind <= 8; wind++) {
            x.wind(wind);
            CHECK.due("wind " + wind, columnsOf(x, 0), 0xff << wind - 3);
        }
        x.aim(0, 1, 2);
        CHECK.due("aimed in the wind", columnsOf(x, 0), 0x00c0);
        x.wind(0);
        CHECK.due("no wind", columnsOf(x, 0), 0x0006);
    }

    private static void columnsBeyondTheLastAreLost() {
        FacadeShow x = aimed(12, 15);
        int[] left = {0xe000, 0xc000, 0x8000, 0, 0};
        for (int wind = 4; wind <= 8; wind++) {
            x.wind(wind);
            CHECK.due("wind " + wind, columnsOf(x, 0), left[wind - 4]);
        }
        CHECK.due("none gets some at the other end", x.covered(1), 0);
        x.aim(0, 10, 10);
        CHECK.due("just the last", columnsOf(x, 0), 0x8000);
        x.aim(0, 11, 11);
        CHECK.due("just beyond", columnsOf(x, 0), 0);
        x.wind(3);
        CHECK.due("back", columnsOf(x, 0), 0x0800);
        FacadeShow last = straight(15);
        last.cell(15, 9, FacadeShow.PEOPLE);
        CHECK.due("a ray to the last", last.breaches(), 1);
        last.wind(4);
        CHECK.due("no ray to what is lost", last.breaches(), 0);
    }

    private static void windShiftsAllProjectors() {
        FacadeShow x = new FacadeShow();
        for (int number = 0; number < 10; number++) {
            x.projector(number, 11, 9999, 0, 11);
            x.aim(number, number, number);
        }
        x.wind(5);
        for (int number = 0; number < 10; number++) {
            CHECK.due("projector " + number, columnsOf(x, number), 4 << number);
        }
    }

    private static void windHasItsEnds() {
        FacadeShow x = new FacadeShow();
        CHECK.due("at first", x.wind(0), 0);
        CHECK.range("wind", 0, 8, wind -> x.wind(wind));
    }

    private static void rayEndsAtTheRelief() {
        FacadeShow x = new FacadeShow();
        x.projector(4, 6, 1, 0, 1);
        int[] inRowThree = {8, 9, 10};
        int[] justBefore = {11, 10, 10};
        for (int relief = 0; relief <= 2; relief++) {
            x.column(12, relief, FacadeShow.STONE);
            CHECK.due("on the way to relief " + relief, x.through(0, 12, 3), inRowThree[relief]);
            CHECK.due("just before relief " + relief, x.through(0, 12, relief + 1), justBefore[relief]);
            CHECK.due("at relief " + relief, x.through(0, 12, relief), FacadeShow.NONE);
        }
        CHECK.due("just before the projector", x.through(0, 12, 5), 6);
        CHECK.due("at the projector", x.through(0, 12, 6), FacadeShow.NONE);
        CHECK.due("behind the projector", x.through(0, 12, 7), FacadeShow.NONE);
    }

    private static void halfGoesToTheGreaterColumn() {
        FacadeShow x = new FacadeShow();
        x.projector(4, 8, 1, 0, 1);
        CHECK.due("4.5 to the right", x.through(0, 5, 4), 5);
        CHECK.due("3.5 to the left", x.through(0, 3, 4), 4);
        CHECK.due("5.5 to the right", x.through(0, 7, 4), 6);
        CHECK.due("2.5 to the left", x.through(0, 1, 4), 3);
        CHECK.due("0.5 to the left", x.through(0, 0, 1), 1);
        x.column(2, 2, FacadeShow.STONE);
        CHECK.due("2.33 of relief 2", x.through(0, 2, 3), 2);
        x.column(1, 2, FacadeShow.STONE);
        CHECK.due("2.5 of relief 2", x.through(0, 1, 5), 3);
    }

    private static void lessThanHalfIsNearer() {
        FacadeShow x = new FacadeShow();
        x.projector(4, 9, 1, 0, 1);
        CHECK.due("4.44 to the right", x.through(0, 5, 5), 4);
        CHECK.due("4.56 to the right", x.through(0, 5, 4), 5);
        CHECK.due("3.56 to the left", x.through(0, 3, 5), 4);
        CHECK.due("3.44 to the left", x.through(0, 3, 4), 3);
    }

    private static void rayKeepsToItsEndColumns() {
        for (int end = 0; end < 16; end += 15) {
            FacadeShow x = new FacadeShow();
            x.projector(end, 11, 1, 0, 1);
            x.projector(15 - end, 11, 1, 0, 1);
            for (int row = 1; row < 11; row++) {
                CHECK.due("straight in " + end, x.through(0, end, row), end);
            }
            CHECK.due("first of all across", x.through(1, end, 10), end == 0 ? 14 : 1);
            CHECK.due("last of all across", x.through(1, end, 1), end == 0 ? 1 : 14);
        }
    }

    private static void treesBlockInEachRowBetween() {
        FacadeShow x = straight(5);
        for (int row = 3; row < 10; row++) {
            x.cell(5, row, FacadeShow.TREE);
            CHECK.due("row " + row, x.gives(0, 5), 0);
            x.cell(5, row, FacadeShow.EMPTY);
            CHECK.due("no more in row " + row, x.gives(0, 5), 100);
        }
    }

    private static void mastsBlockInEachRowBetween() {
        for (int row = 3; row <= 11; row++) {
            if (row != 10) {
                FacadeShow x = straight(5);
                x.projector(5, row, 1, 0, 1);
                CHECK.due("row " + row, x.gives(0, 5), row < 10 ? 0 : 100);
            }
        }
    }

    private static void treesBesideDoNotBlock() {
        FacadeShow x = straight(5);
        for (int row = 3; row <= 11; row++) {
            x.cell(4, row, FacadeShow.TREE);
            x.cell(6, row, FacadeShow.TREE);
        }
        x.cell(5, 11, FacadeShow.TREE);
        CHECK.due("in between", x.gives(0, 5), 100);
        FacadeShow near = new FacadeShow();
        near.projector(4, 9, 9999, 0, 9);
        near.aim(0, 5, 5);
        near.cell(5, 5, FacadeShow.TREE);
        near.cell(4, 4, FacadeShow.TREE);
        CHECK.due("not just beside", near.gives(0, 5), 7315);
        near.cell(4, 5, FacadeShow.TREE);
        CHECK.due("the nearer", near.gives(0, 5), 0);
        near.cell(4, 5, FacadeShow.EMPTY);
        near.cell(5, 4, FacadeShow.TREE);
        CHECK.due("the nearer then", near.gives(0, 5), 0);
    }

    private static void stoneBlocks() {
        FacadeShow x = new FacadeShow();
        x.projector(8, 5, 9999, 0, 5);
        x.aim(0, 1, 8);
        CHECK.due("the ray's column in row 1", x.through(0, 3, 1), 4);
        x.column(4, 2, FacadeShow.GLASS);
        CHECK.due("stone below glass", x.gives(0, 3), 0);
        CHECK.isTrue("another ray", x.gives(0, 7) > 0);
        x.column(3, 1, FacadeShow.STONE);
        CHECK.isTrue("no row of stone before relief 1", x.gives(0, 3) > 0);
    }

    private static void theLivingDoNotBlock() {
        FacadeShow x = straight(5);
        for (int row = 3; row < 10; row++) {
            x.cell(5, row, row % 2 == 0 ? FacadeShow.PEOPLE : FacadeShow.NEST);
        }
        CHECK.due("people and nests", x.gives(0, 5), 100);
        for (int row = 3; row < 10; row++) {
            x.cell(5, row, row % 2 == 0 ? FacadeShow.NEST : FacadeShow.PEOPLE);
        }
        CHECK.due("nests and people", x.gives(0, 5), 100);
    }

    private static void lightIsByTheSquares() {
        FacadeShow x = aimed(0, 7);
        CHECK.due("3 apart", x.gives(0, 7), 999900 / 9 * 60 / 100);
        CHECK.due("3 and 1", x.gives(0, 6), 999900 / 10 * 60 / 100);
        CHECK.due("3 and 7", x.gives(0, 0), 999900 / 58 * 60 / 100);
        x.aim(0, 8, 15);
        CHECK.due("3 and 1 to the right", x.gives(0, 8), 999900 / 10 * 60 / 100);
        CHECK.due("3 and 8 to the right", x.gives(0, 15), 999900 / 73 * 60 / 100);
    }

    private static void lightIsRoundedTwice() {
        FacadeShow x = new FacadeShow();
        x.projector(0, 3, 1, 0, 3);
        x.aim(0, 7, 7);
        CHECK.due("1.72 is 1, and 0.6 is 0", x.gives(0, 7), 0);
        x.projector(1, 3, 2, 0, 3);
        x.aim(1, 7, 7);
        CHECK.due("4.44 is 4, and 2.4 is 2", x.gives(1, 7), 2);
        x.column(7, 0, FacadeShow.BRICK);
        CHECK.due("4.44 is 4, and 1.6 is 1", x.gives(1, 7), 1);
    }

    private static void lightHasItsEnds() {
        FacadeShow x = new FacadeShow();
        x.projector(0, 3, 9999, 0, 3);
        x.aim(0, 0, 0);
        x.column(0, 2, FacadeShow.STONE);
        CHECK.due("the most", x.gives(0, 0), 599940);
        x.projector(0, 11, 1, 0, 11);
        x.aim(1, 15, 15);
        CHECK.due("the least", x.gives(1, 15), 0);
    }

    private static void sharpnessEndsOneAway() {
        for (int focus = 1; focus <= 11; focus++) {
            FacadeShow x = new FacadeShow();
            x.projector(3, 6, 1, 0, focus);
            CHECK.due("focus " + focus + " for 6 rows", x.isSharp(0, 12), focus >= 5 && focus <= 7);
            x.column(12, 2, FacadeShow.STONE);
            CHECK.due("focus " + focus + " for 4 rows", x.isSharp(0, 12), focus >= 3 && focus <= 5);
        }
    }

    // ---- covers

    private static void lightIsOfNoneToAllTen() {
        FacadeShow x = thirties(10);
        CHECK.due("of none", x.light(0), 0);
        for (int number = 0; number < 10; number++) {
            x.turn(number, true);
            CHECK.due("of as many", x.light(0), 30 * (number + 1));
        }
        x.fail(9, true);
        CHECK.due("without the failed one", x.light(0), 270);
        x.turn(0, false);
        CHECK.due("without the one that is off", x.light(0), 240);
        CHECK.due("another column", x.light(1), 0);
    }

    private static void levelIsEnough() {
        FacadeShow x = thirties(10);
        int[] levels = {1, 30, 31, 60, 61, 300, 301, 9999};
        int[] due = {1, 1, 2, 2, 3, 10, 11, 11};
        for (int told = 0; told < levels.length; told++) {
            x.need(0, levels[told]);
            for (int many = 0; many <= 10; many++) {
                CHECK.due(many + " for " + levels[told], x.covered((1 << many) - 1), many >= due[told] ? 1 : 0);
            }
        }
    }

    private static void levelIsHundredAtFirst() {
        FacadeShow x = new FacadeShow();
        x.projector(0, 10, 167, 0, 10);
        x.projector(15, 10, 166, 0, 10);
        x.aim(0, 0, 0);
        x.aim(1, 15, 15);
        CHECK.due("just the level", x.covered(1), 1);
        CHECK.due("light below it", x.gives(1, 15), 99);
        CHECK.due("just below the level", x.covered(2), 0);
    }

    private static void eachThatGivesSomeIsSharp() {
        FacadeShow x = straight(0);
        x.projector(3, 11, 3, 0, 9);
        CHECK.due("unsharp, but it gives none", x.covered(3), 1);
        x.aim(1, 0, 0);
        CHECK.due("it gives some", x.gives(1, 0), 1);
        CHECK.due("unsharp", x.covered(3), 0);
        CHECK.due("not in the set", x.covered(1), 1);
        x.column(0, 1, FacadeShow.STONE);
        CHECK.due("sharp by the relief", x.covered(3), 1);
        x.column(0, 0, FacadeShow.STONE);
        x.fail(1, true);
        CHECK.due("failed it gives none", x.covered(3), 1);
    }

    private static void noColumnIsNeededAtFirst() {
        FacadeShow x = side(2);
        CHECK.due("least", x.least(), 0);
        CHECK.due("leastAnew", x.leastAnew(), 0);
        CHECK.due("bears", x.bears(0), true);
        CHECK.range("columns", 0, 65535, columns -> { x.need(columns, 100); return 0; });
    }

    private static void least(String what, FacadeShow x, int set) {
        CHECK.due(what, x.least(), set);
        CHECK.due(what + ", anew", x.leastAnew(), set == FacadeShow.NONE ? FacadeShow.NONE : Integer.bitCount(set));
    }

    private static void leastSetMayBeOfNone() {
        FacadeShow x = side(10);
        x.need(0, 9999);
        least("no column is needed", x, 0);
        FacadeShow bare = new FacadeShow();
        least("no projector, no column", bare, 0);
        bare.need(1, 1);
        least("no projector", bare, FacadeShow.NONE);
    }

    private static void leastSetIsOfTheFewest() {
        FacadeShow x = side(3);
        x.projector(5, 10, 400, 0, 10);
        x.aim(3, 0, 2);
        x.need(3, 100);
        least("one of great number, not two of small", x, 8);
        x.need(7, 100);
        least("one, not three", x, 8);
        x.need(1, 100);
        least("the small one of two", x, 1);
        x.need(1, 290);
        least("both of them", x, 9);
    }

    private static void leastSetHasTheLeastNumber() {
        FacadeShow x = thirties(10);
        x.need(1, 30);
        least("of ten alike", x, 1);
        x.need(1, 90);
        least("of ten alike, three", x, 7);
        x.fail(0, true);
        least("of nine alike, three", x, 14);
        x.fail(9, true);
        x.need(1, 240);
        least("of eight alike, all", x, 510);
    }

    private static void leastSetMayBeOfAll() {
        FacadeShow x = side(10);
        x.need(1023, 100);
        least("all ten", x, 1023);
        x.need(2047, 100);
        least("one column too many", x, FacadeShow.NONE);
        x.need(1023, 101);
        least("a level too high", x, FacadeShow.NONE);
    }

    private static void leastSetHasNoFailedOne() {
        FacadeShow x = thirties(4);
        x.need(1, 60);
        x.fail(1, true);
        least("without the second", x, 5);
        x.fail(0, true);
        least("without the first two", x, 12);
        x.fail(3, true);
        least("one is too few", x, FacadeShow.NONE);
        x.need(0, 60);
        least("none is needed", x, 0);
    }

    private static void eachOneMayFail() {
        FacadeShow x = thirties(10);
        x.need(1, 270);
        CHECK.due("nine of ten", x.bears(1023), true);
        CHECK.due("eight of nine", x.bears(511), false);
        x.need(1, 271);
        CHECK.due("all ten are needed", x.bears(1023), false);
        FacadeShow ends = side(3);
        ends.projector(10, 10, 900, 0, 10);
        ends.aim(3, 0, 2);
        ends.need(2, 100);
        CHECK.due("either of two", ends.bears(10), true);
        ends.need(3, 100);
        CHECK.due("the first may, the last may not", ends.bears(10), false);
        CHECK.due("the last may, the first may, the middle may", ends.bears(11), true);
        ends.need(16, 100);
        CHECK.due("it does not cover itself", ends.bears(15), false);
    }

    private static void emptySetHasNoneToFail() {
        FacadeShow x = side(3);
        CHECK.due("none needed", x.bears(0), true);
        CHECK.due("none needed, one", x.bears(1), true);
        x.need(1, 100);
        CHECK.due("one needed", x.bears(0), false);
        CHECK.due("one needed, just that", x.bears(1), false);
    }

    private static void onlyMoreThanTheLevelIsBlended() {
        FacadeShow x = thirties(2);
        x.turn(0, true);
        x.turn(1, true);
        x.need(0, 61);
        CHECK.due("less than the level", x.blended(0, 0), 30);
        x.need(0, 60);
        CHECK.due("just the level", x.blended(0, 0), 30);
        x.need(0, 59);
        CHECK.due("more than the level", x.blended(0, 0), 29);
        x.need(0, 1);
        CHECK.due("the least level", x.blended(0, 0), 0);
    }

    private static void blendedIsRoundedDown() {
        FacadeShow x = thirties(3);
        for (int number = 0; number < 3; number++) {
            x.turn(number, true);
        }
        x.need(0, 89);
        CHECK.due("29.67", x.blended(2, 0), 29);
        x.need(0, 87);
        CHECK.due("29", x.blended(2, 0), 29);
        x.need(0, 86);
        CHECK.due("28.67", x.blended(2, 0), 28);
        FacadeShow great = new FacadeShow();
        great.projector(0, 3, 9999, 0, 3);
        great.column(0, 2, FacadeShow.STONE);
        great.aim(0, 0, 0);
        great.turn(0, true);
        great.need(0, 9999);
        CHECK.due("of great numbers", great.blended(0, 0), 9999);
    }

    // ---- breaches

    private static void rayIsOneBreach() {
        FacadeShow x = straight(5);
        CHECK.due("none", x.breaches(), 0);
        x.cell(5, 4, FacadeShow.PEOPLE);
        CHECK.due("people", x.breaches(), 1);
        for (int row = 3; row < 10; row++) {
            x.cell(5, row, FacadeShow.NEST);
        }
        CHECK.due("seven nests, one ray", x.breaches(), 1);
        x.aim(0, 1, 8);
        x.cell(5, 9, FacadeShow.NEST);
        CHECK.due("eight rays through a cell", x.breaches(), 8);
        x.projector(0, 10, 1, 0, 1);
        x.aim(1, 5, 5);
        x.turn(1, true);
        CHECK.due("a ray of another one beside", x.breaches(), 8);
        x.cell(1, 9, FacadeShow.NEST);
        CHECK.due("a ray of another one", x.breaches(), 9);
    }

    private static void onlyRaysThatAreThereAreBreaches() {
        FacadeShow x = straight(5);
        x.cell(5, 4, FacadeShow.PEOPLE);
        x.turn(0, false);
        CHECK.due("off", x.breaches(), 0);
        x.turn(0, true);
        x.fail(0, true);
        CHECK.due("failed", x.breaches(), 0);
        x.fail(0, false);
        x.wind(4);
        CHECK.due("shifted away", x.breaches(), 0);
        x.wind(0);
        x.cell(5, 3, FacadeShow.TREE);
        CHECK.due("blocked", x.breaches(), 0);
        x.cell(5, 3, FacadeShow.EMPTY);
        CHECK.due("all of it", x.breaches(), 1);
    }

    private static void onlyTheRowsBetweenAreBreached() {
        FacadeShow x = straight(5);
        for (int row = 3; row <= 11; row++) {
            if (row != 10) {
                x.cell(5, row, FacadeShow.PEOPLE);
                CHECK.due("row " + row, x.breaches(), row < 10 ? 1 : 0);
                x.cell(5, row, FacadeShow.EMPTY);
            }
        }
        x.cell(4, 10, FacadeShow.PEOPLE);
        x.cell(4, 3, FacadeShow.NEST);
        x.cell(6, 3, FacadeShow.NEST);
        CHECK.due("beside", x.breaches(), 0);
    }

    private static void breachesAreCountedEachMinute() {
        FacadeShow x = straight(5);
        x.cell(5, 4, FacadeShow.PEOPLE);
        x.pass(1);
        CHECK.due("one minute", x.show(2), 1);
        x.pass(1440);
        CHECK.due("a day more", x.show(2), 1441);
        x.cell(5, 4, FacadeShow.EMPTY);
        x.pass(1);
        CHECK.due("none any more", x.show(2), 1441);
    }

    /** What is counted from the beginning of a day on, minute by minute, with one projector on. */
    private static void curfewCounts(FacadeShow x, int... counts) {
        long before = x.show(2);
        for (int count : counts) {
            x.pass(1);
            CHECK.due("minute " + (x.show(4) - 1), x.show(2) - before, count);
            before = x.show(2);
        }
    }

    private static void curfewHasItsEnds() {
        FacadeShow x = straight(5);
        x.curfew(2, 4);
        curfewCounts(x, 0, 0, 1, 1, 0, 0);
        x.curfew(6, 7);
        curfewCounts(x, 1, 0);
        x.curfew(8, 8);
        curfewCounts(x, 0, 0);
        FacadeShow day = straight(5);
        day.curfew(0, 1440);
        day.pass(1440);
        CHECK.due("all day", day.show(2), 1440);
        FacadeShow edges = straight(5);
        edges.curfew(1439, 1440);
        edges.pass(1438);
        curfewCounts(edges, 0, 1, 0);
    }

    private static void curfewComesEachDay() {
        FacadeShow x = straight(5);
        x.curfew(0, 1);
        x.pass(1439);
        CHECK.due("the first day", x.show(2), 1);
        curfewCounts(x, 0, 1, 0);
        x.pass(1438);
        curfewCounts(x, 1, 0);
        for (int day = 2; day < 69; day++) {
            x.pass(1440);
        }
        CHECK.due("the last minute", x.pass(637), 99999);
        CHECK.due("seventy days", x.show(2), 70);
    }

    private static void curfewCountsWhatIsOn() {
        FacadeShow x = side(10);
        x.curfew(0, 1440);
        curfewCounts(x, 0);
        for (int number = 0; number < 10; number++) {
            x.turn(number, true);
            curfewCounts(x, number + 1);
        }
        x.fail(9, true);
        curfewCounts(x, 10);
        x.turn(0, false);
        curfewCounts(x, 9);
        x.cell(5, 4, FacadeShow.PEOPLE);
        curfewCounts(x, 10);
    }

    private static void thereIsNoCurfewAtFirst() {
        FacadeShow x = straight(5);
        x.pass(1440);
        CHECK.due("a day", x.show(2), 0);
    }

    private static void phaseBearsJustSoMuch() {
        for (int phase = 0; phase < 3; phase++) {
            FacadeShow x = new FacadeShow();
            x.projector(0, 3, 9998, phase, 1);
            x.projector(1, 3, 1, phase, 1);
            x.projector(2, 3, 1, phase, 1);
            x.projector(3, 3, 9999, (phase + 1) % 3, 1);
            CHECK.due("below", x.turn(0, true), false);
            CHECK.due("just so much", x.turn(1, true), false);
            CHECK.badState("one more", () -> x.turn(2, true) ? 1 : 0);
            CHECK.due("all of another phase", x.turn(3, true), false);
            x.phase(phase, 10000);
            CHECK.due("it bears more", x.turn(2, true), false);
        }
    }

    private static void phaseBearsFailedOnes() {
        FacadeShow x = new FacadeShow();
        x.projector(0, 3, 9999, 0, 1);
        x.projector(1, 3, 1, 0, 1);
        x.turn(0, true);
        x.fail(0, true);
        CHECK.badState("a failed one counts", () -> x.turn(1, true) ? 1 : 0);
        x.turn(0, false);
        x.fail(1, true);
        x.phase(0, 0);
        CHECK.badState("a failed one is switched on", () -> x.turn(1, true) ? 1 : 0);
        x.phase(0, 1);
        CHECK.due("it may", x.turn(1, true), false);
    }

    private static void phaseIsLookedAtWhenOneIsSwitchedOn() {
        FacadeShow x = new FacadeShow();
        x.projector(0, 3, 100, 0, 1);
        x.turn(0, true);
        x.phase(0, 0);
        CHECK.due("it stays on", x.show(5), 1);
        CHECK.due("on already", x.turn(0, true), true);
        CHECK.due("off is always borne", x.turn(0, false), true);
        CHECK.due("off again too", x.turn(0, false), false);
        CHECK.badState("on no more", () -> x.turn(0, true) ? 1 : 0);
    }

    private static void energyAddsUp() {
        FacadeShow x = new FacadeShow();
        for (int number = 0; number < 10; number++) {
            x.projector(number, 3, 9999, number % 3, 1);
        }
        x.pass(1440);
        CHECK.due("all off", x.show(3), 0);
        for (int phase = 0; phase < 3; phase++) {
            x.phase(phase, 99999);
        }
        for (int number = 0; number < 10; number++) {
            x.turn(number, true);
        }
        x.pass(1);
        CHECK.due("all on", x.show(3), 99990);
        x.fail(3, true);
        for (int day = 0; day < 68; day++) {
            x.pass(1440);
        }
        x.pass(638);
        CHECK.due("more than an int, failed or not", x.show(3), 99990L * (99999 - 1440));
    }

    // ---- frames and scenes

    private static void readyForNoughtAtFirst() {
        FacadeShow x = side(10);
        for (int number = 0; number < 10; number++) {
            CHECK.due("projector " + number, x.ready(number, 1), 0);
        }
        FacadeShow held = straight(5);
        held.pass(1);
        CHECK.due("no frame", held.show(0), 0);
    }

    private static void showBeginsAtFrameNought() {
        CHECK.due("at first", new FacadeShow().show(0), 0);
        CHECK.due("held never yet", new FacadeShow().show(1), 0);
    }

    private static void frames(String what, FacadeShow x, int frame, int held) {
        CHECK.due(what + ", frame", x.show(0), frame);
        CHECK.due(what + ", held", x.show(1), held);
    }

    private static void frameEndsWhereAllAreReady() {
        FacadeShow x = side(3);
        int[] ready = {3, 2, 4};
        for (int number = 0; number < 3; number++) {
            x.turn(number, true);
            x.ready(number, ready[number]);
        }
        x.pass(1);
        frames("first", x, 1, 0);
        x.pass(1);
        frames("all are ready for just that", x, 2, 0);
        x.pass(1);
        frames("one is not", x, 2, 1);
        x.ready(1, 3);
        x.pass(2);
        frames("one more", x, 3, 2);
        x.ready(0, 0);
        x.pass(1);
        frames("ready for less", x, 3, 3);
        FacadeShow most = straight(5);
        most.ready(0, 99999);
        for (int day = 0; day < 69; day++) {
            most.pass(1440);
        }
        most.pass(639);
        frames("to the last minute", most, 99999, 0);
    }

    private static void onlyLampsThatShineHold() {
        FacadeShow x = side(2);
        x.ready(0, 9);
        x.turn(0, true);
        x.pass(1);
        frames("the other is off", x, 1, 0);
        x.turn(1, true);
        x.pass(1);
        frames("the other is on", x, 1, 1);
        x.fail(1, true);
        x.pass(1);
        frames("the other has failed", x, 2, 1);
        x.fail(1, false);
        x.pass(1);
        frames("the other is mended", x, 2, 2);
    }

    private static void heldIsCounted() {
        FacadeShow x = straight(5);
        x.ready(0, 2);
        x.pass(1440);
        frames("a day", x, 2, 1438);
        x.pass(1);
        frames("a minute", x, 2, 1439);
    }

    private static void withNoneItIsHeld() {
        FacadeShow x = new FacadeShow();
        x.pass(1);
        frames("no projectors", x, 0, 1);
        x.projector(0, 3, 1, 0, 1);
        x.ready(0, 99999);
        x.pass(1);
        frames("none is on", x, 0, 2);
        x.turn(0, true);
        x.fail(0, true);
        x.pass(1);
        frames("all have failed", x, 0, 3);
        x.fail(0, false);
        x.pass(1);
        frames("one", x, 1, 3);
    }

    private static void scenesHaveTheirEnds() {
        FacadeShow x = new FacadeShow();
        for (int scene = 0; scene < 4; scene++) {
            CHECK.due("version of " + scene, x.scene(scene, false), 0);
            CHECK.due("proposed for " + scene, x.scene(scene, true), FacadeShow.NONE);
        }
        CHECK.numbers("scene", 0, 3, scene -> x.scene(scene, false));
        CHECK.numbers("propose", 0, 3, scene -> x.propose(scene, 1));
        FacadeShow proposed = new FacadeShow();
        for (int scene = 0; scene < 4; scene++) {
            proposed.propose(scene, 5 + scene);
        }
        for (int scene = 0; scene < 4; scene++) {
            CHECK.due("its own", proposed.answer(scene, true), 5 + scene);
        }
        CHECK.noSuch("answer below", () -> proposed.answer(-1, true));
        CHECK.noSuch("answer above", () -> proposed.answer(4, true));
    }

    private static void laterProposalCounts() {
        FacadeShow x = new FacadeShow();
        CHECK.due("the first", x.propose(2, 999), FacadeShow.NONE);
        CHECK.due("the second", x.propose(2, 0), 999);
        CHECK.due("the third", x.propose(2, 4), 0);
        CHECK.due("proposed", x.scene(2, true), 4);
        CHECK.due("not yet the version", x.scene(2, false), 0);
        CHECK.due("taken", x.answer(2, true), 4);
    }

    private static void ownerTakesOrRefuses() {
        FacadeShow x = new FacadeShow();
        x.propose(0, 999);
        CHECK.due("taken", x.answer(0, true), 999);
        CHECK.due("the version", x.scene(0, false), 999);
        x.propose(0, 5);
        CHECK.due("refused", x.answer(0, false), 999);
        CHECK.due("the version still", x.scene(0, false), 999);
        CHECK.due("nothing is proposed", x.scene(0, true), FacadeShow.NONE);
        x.propose(0, 0);
        CHECK.due("version 0 may be proposed", x.scene(0, true), 0);
        CHECK.due("version 0 taken", x.answer(0, true), 0);
        CHECK.badState("no more", () -> x.answer(0, true));
    }
}
