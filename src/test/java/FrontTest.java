import java.io.IOException;

/** Promises 1 to 4: a new object, column, cell, need. */
final class FrontTest {
    private static final Check CHECK = new Check("FrontTest");

    public static void main(String[] args) throws IOException {
        Quotes quotes = new Quotes(CHECK, Document.promises(1, 4));
        quotes.test("1 No projectors.", FrontTest::newObjectHasNoProjectors, FrontTest::newObjectStandsAtNothing,
                FrontTest::newFrontIsFlatStone, FrontTest::newLevelIsHundred);
        quotes.test("2 Tells of a column.", FrontTest::columnIsToldAnew);
        quotes.test("2 - `relief`", FrontTest::columnHasRelief, FrontTest::reliefIsStoneBelow);
        quotes.test("2 - `surface`", FrontTest::columnHasSurface, FrontTest::eachReliefHasEachSurface);
        quotes.test("2 Throws `IndexOutOfBounds", FrontTest::columnRefusesColumns);
        quotes.test("2 Throws `IllegalArgument", FrontTest::columnRefusesReliefAndSurface);
        quotes.test("3 Tells what is in a cell.", FrontTest::cellHoldsRays);
        quotes.test("3 - `row`", FrontTest::cellHasItsRows);
        quotes.test("3 - `what`", FrontTest::cellHasFourKinds);
        quotes.test("3 Returns what was there.", FrontTest::cellReturnsWhatWasThere);
        quotes.test("3 Throws `IndexOutOfBounds", FrontTest::cellRefusesColumnsAndRows);
        quotes.test("3 Throws `IllegalArgument", FrontTest::cellRefusesWhat);
        quotes.test("3 Throws `IllegalState", FrontTest::cellRefusesMasts);
        quotes.test("4 Tells which columns are needed.", FrontTest::needTellsColumns);
        quotes.test("4 - `columns`", FrontTest::needIsOfEachColumn);
        quotes.test("4 - `level`", FrontTest::needHasLevels);
        quotes.test("4 Throws `IllegalArgument", FrontTest::needRefuses);
        quotes.end();
    }

    private static void newObjectHasNoProjectors() {
        FacadeShow x = new FacadeShow();
        CHECK.noSuch("aim", () -> { x.aim(0, 0, 0); return 0; });
        CHECK.noSuch("turn", () -> x.turn(0, true) ? 1 : 0);
        CHECK.noSuch("fail", () -> x.fail(0, true) ? 1 : 0);
        CHECK.noSuch("gives", () -> x.gives(0, 0));
        CHECK.badArgument("covered", () -> x.covered(1));
        CHECK.due("covered by none", x.covered(0), 0);
        CHECK.due("least", x.least(), 0);
        CHECK.due("leastAnew", x.leastAnew(), 0);
        CHECK.due("bears", x.bears(0), true);
        CHECK.due("breaches", x.breaches(), 0);
        CHECK.due("projector", x.projector(0, 3, 1, 0, 1), 0);
    }

    private static void newObjectStandsAtNothing() {
        FacadeShow x = new FacadeShow();
        for (int what = 0; what <= 5; what++) {
            CHECK.due("show " + what, x.show(what), 0);
        }
        for (int column = 0; column < 16; column++) {
            CHECK.due("light", x.light(column), 0);
            for (int row = 3; row <= 11; row++) {
                CHECK.due("cell", x.cell(column, row, FacadeShow.EMPTY), FacadeShow.EMPTY);
            }
        }
        for (int scene = 0; scene < 4; scene++) {
            CHECK.due("version", x.scene(scene, false), 0);
            CHECK.due("proposed", x.scene(scene, true), FacadeShow.NONE);
        }
        for (int phase = 0; phase < 3; phase++) {
            CHECK.due("phase", x.phase(phase, 5), 9999);
        }
        CHECK.due("wind", x.wind(0), 0);
        x.projector(0, 3, 1, 0, 1);
        CHECK.due("ready", x.ready(0, 0), 0);
        CHECK.due("on", x.turn(0, true), false);
        CHECK.due("failed", x.fail(0, false), false);
        x.pass(1440);
        CHECK.due("no curfew", x.show(2), 0);
    }

    private static void newFrontIsFlatStone() {
        for (int column = 0; column < 16; column++) {
            FacadeShow x = new FacadeShow();
            x.projector(column, 10, 167, 0, 10);
            x.aim(0, column, column);
            CHECK.due("stone of column " + column, x.gives(0, column), 100);
        }
    }

    private static void newLevelIsHundred() {
        FacadeShow x = new FacadeShow();
        x.projector(0, 10, 167, 0, 10);
        x.projector(15, 10, 166, 0, 10);
        x.aim(0, 0, 0);
        x.aim(1, 15, 15);
        CHECK.due("light 99", x.gives(1, 15), 99);
        CHECK.due("level", x.covered(3), 1);
    }

    private static void columnHasSurface() {
        FacadeShow x = new FacadeShow();
        x.projector(5, 10, 167, 0, 10);
        x.aim(0, 5, 5);
        x.column(5, 0, FacadeShow.BRICK);
        CHECK.due("brick", x.gives(0, 5), 66);
        x.column(5, 0, FacadeShow.GLASS);
        CHECK.due("glass", x.gives(0, 5), 0);
        x.column(5, 0, FacadeShow.STONE);
        CHECK.due("stone", x.gives(0, 5), 100);
    }

    private static void eachReliefHasEachSurface() {
        FacadeShow x = new FacadeShow();
        x.projector(5, 10, 167, 0, 10);
        x.aim(0, 5, 5);
        int[][] lights = {{100, 66, 0}, {123, 82, 0}, {156, 104, 0}};
        for (int relief = 0; relief <= 2; relief++) {
            for (int surface = FacadeShow.STONE; surface <= FacadeShow.GLASS; surface++) {
                x.column(5, relief, surface);
                CHECK.due("relief " + relief + ", surface " + surface, x.gives(0, 5), lights[relief][surface]);
            }
        }
    }

    private static void columnHasRelief() {
        FacadeShow x = new FacadeShow();
        x.projector(5, 10, 167, 0, 10);
        x.aim(0, 5, 5);
        x.column(5, 1, FacadeShow.STONE);
        CHECK.due("relief 1", x.gives(0, 5), 123);
        x.column(5, 2, FacadeShow.STONE);
        CHECK.due("relief 2", x.gives(0, 5), 156);
        x.column(5, 0, FacadeShow.STONE);
        CHECK.due("relief 0", x.gives(0, 5), 100);
        x.column(0, 2, FacadeShow.GLASS);
        x.column(15, 2, FacadeShow.GLASS);
        CHECK.due("other columns", x.gives(0, 5), 100);
    }

    private static void reliefIsStoneBelow() {
        FacadeShow x = new FacadeShow();
        x.projector(0, 3, 300, 0, 3);
        x.aim(0, 3, 3);
        CHECK.due("free", x.gives(0, 3), 999);
        CHECK.due("through row 2", x.through(0, 3, 2), 1);
        CHECK.due("through row 1", x.through(0, 3, 1), 2);
        x.column(1, 2, FacadeShow.STONE);
        CHECK.due("what is seen is no stone in the way", x.gives(0, 3), 999);
        x.column(2, 1, FacadeShow.STONE);
        CHECK.due("what is seen of relief 1", x.gives(0, 3), 999);
        x.column(2, 2, FacadeShow.STONE);
        CHECK.due("stone in the way", x.gives(0, 3), 0);
    }

    private static void columnIsToldAnew() {
        FacadeShow x = new FacadeShow();
        x.projector(5, 10, 167, 0, 10);
        x.aim(0, 5, 5);
        x.column(5, 2, FacadeShow.GLASS);
        x.column(5, 1, FacadeShow.BRICK);
        CHECK.due("told anew", x.gives(0, 5), 82);
        x.column(5, 0, FacadeShow.STONE);
        CHECK.due("told as at first", x.gives(0, 5), 100);
    }

    private static void columnRefusesColumns() {
        FacadeShow x = new FacadeShow();
        CHECK.numbers("column", 0, 15, column -> { x.column(column, 0, 0); return 0; });
    }

    private static void columnRefusesReliefAndSurface() {
        FacadeShow x = new FacadeShow();
        CHECK.range("relief", 0, 2, relief -> { x.column(0, relief, 2); return 0; });
        CHECK.range("surface", 0, 2, surface -> { x.column(15, 2, surface); return 0; });
        CHECK.badArgument("both", () -> { x.column(5, 3, 3); return 0; });
    }

    private static void cellReturnsWhatWasThere() {
        FacadeShow x = new FacadeShow();
        int[][] cells = {{0, 3}, {0, 11}, {15, 3}, {15, 11}, {7, 6}};
        for (int[] cell : cells) {
            for (int what = 0; what <= 3; what++) {
                CHECK.due("first", x.cell(cell[0], cell[1], what), FacadeShow.EMPTY);
                CHECK.due("then", x.cell(cell[0], cell[1], FacadeShow.EMPTY), what);
            }
        }
        x.cell(7, 6, FacadeShow.NEST);
        CHECK.due("neighbour row", x.cell(7, 7, 0), FacadeShow.EMPTY);
        CHECK.due("neighbour column", x.cell(8, 6, 0), FacadeShow.EMPTY);
    }

    private static void cellHoldsRays() {
        FacadeShow x = new FacadeShow();
        x.projector(5, 10, 167, 0, 10);
        x.aim(0, 5, 5);
        for (int row = 3; row < 10; row++) {
            x.cell(5, row, FacadeShow.TREE);
            CHECK.due("tree", x.gives(0, 5), 0);
            x.cell(5, row, FacadeShow.PEOPLE);
            CHECK.due("people", x.gives(0, 5), 100);
            x.cell(5, row, FacadeShow.NEST);
            CHECK.due("nest", x.gives(0, 5), 100);
            x.cell(5, row, FacadeShow.EMPTY);
        }
        x.cell(5, 11, FacadeShow.TREE);
        x.cell(4, 5, FacadeShow.TREE);
        CHECK.due("tree beside", x.gives(0, 5), 100);
    }

    private static void cellHasItsRows() {
        FacadeShow x = new FacadeShow();
        for (int row = 3; row <= 11; row++) {
            CHECK.due("row " + row, x.cell(8, row, FacadeShow.NEST), FacadeShow.EMPTY);
        }
        for (int row = 3; row <= 11; row++) {
            CHECK.due("row " + row + " again", x.cell(8, row, FacadeShow.EMPTY), FacadeShow.NEST);
        }
    }

    private static void cellHasFourKinds() {
        FacadeShow x = new FacadeShow();
        x.projector(5, 10, 167, 0, 10);
        x.aim(0, 5, 5);
        x.turn(0, true);
        int[] lights = {100, 0, 100, 100};
        int[] breaches = {0, 0, 1, 1};
        for (int what = 0; what <= 3; what++) {
            x.cell(5, 5, what);
            CHECK.due("light through " + what, x.light(5), lights[what]);
            CHECK.due("breaches of " + what, x.breaches(), breaches[what]);
        }
    }

    private static void cellRefusesColumnsAndRows() {
        FacadeShow x = new FacadeShow();
        CHECK.numbers("column", 0, 15, column -> x.cell(column, 3, 0));
        CHECK.numbers("row", 3, 11, row -> x.cell(15, row, 0));
        CHECK.noSuch("row 0", () -> x.cell(0, 0, 0));
        CHECK.noSuch("column beyond, row before", () -> x.cell(16, -1, 0));
    }

    private static void cellRefusesWhat() {
        FacadeShow x = new FacadeShow();
        CHECK.range("what", 0, 3, what -> x.cell(0, 3, what));
    }

    private static void cellRefusesMasts() {
        FacadeShow x = new FacadeShow();
        x.projector(2, 5, 1, 0, 1);
        for (int what = 0; what <= 3; what++) {
            int told = what;
            CHECK.badState("a mast, what " + what, () -> x.cell(2, 5, told));
        }
        CHECK.due("beside a mast", x.cell(2, 6, FacadeShow.TREE), FacadeShow.EMPTY);
        x.fail(0, true);
        CHECK.badState("a mast of a failed lamp", () -> x.cell(2, 5, FacadeShow.EMPTY));
    }

    private static void needTellsColumns() {
        FacadeShow x = new FacadeShow();
        x.projector(0, 10, 167, 0, 10);
        x.aim(0, 0, 0);
        x.need(1, 100);
        CHECK.due("column 0", x.least(), 1);
        x.need(1, 101);
        CHECK.due("level above", x.least(), FacadeShow.NONE);
        CHECK.due("level for covered", x.covered(1), 0);
        x.need(1, 1);
        CHECK.due("level 1", x.least(), 1);
        x.need(2, 1);
        CHECK.due("column 1", x.least(), FacadeShow.NONE);
        x.need(65535, 1);
        CHECK.due("all", x.least(), FacadeShow.NONE);
        x.need(0, 9999);
        CHECK.due("none", x.least(), 0);
        CHECK.due("level without need", x.covered(1), 0);
    }

    private static void needIsOfEachColumn() {
        for (int column = 0; column < 16; column++) {
            FacadeShow x = new FacadeShow();
            x.projector(column, 10, 167, 0, 10);
            x.aim(0, column, column);
            x.need(1 << column, 100);
            CHECK.due("column " + column, x.least(), 1);
            x.need(65535 ^ 1 << column, 100);
            CHECK.due("all but column " + column, x.least(), FacadeShow.NONE);
        }
        FacadeShow all = new FacadeShow();
        all.projector(3, 11, 9999, 0, 11);
        all.projector(12, 11, 9999, 1, 11);
        all.aim(0, 0, 7);
        all.aim(1, 8, 15);
        all.need(65535, 1);
        CHECK.due("all columns", all.least(), 3);
        all.need(0, 1);
        CHECK.due("no column any more", all.least(), 0);
    }

    private static void needHasLevels() {
        FacadeShow x = new FacadeShow();
        x.projector(0, 3, 167, 0, 3);
        x.aim(0, 0, 0);
        CHECK.due("light", x.gives(0, 0), 1113);
        x.need(1, 9999);
        CHECK.due("the greatest", x.least(), FacadeShow.NONE);
        x.need(1, 1114);
        CHECK.due("just above", x.least(), FacadeShow.NONE);
        x.need(1, 1113);
        CHECK.due("just so much", x.least(), 1);
        x.need(1, 1);
        CHECK.due("the least", x.least(), 1);
        x.aim(0, 1, 1);
        CHECK.due("not even the least", x.least(), FacadeShow.NONE);
    }

    private static void needRefuses() {
        FacadeShow x = new FacadeShow();
        CHECK.range("columns", 0, 65535, columns -> { x.need(columns, 1); return 0; });
        CHECK.range("level", 1, 9999, level -> { x.need(0, level); return 0; });
        CHECK.badArgument("both", () -> { x.need(65536, 0); return 0; });
    }
}
