/** Promises 1 to 4: a new object, column, cell, need. */
final class FrontTest {
    private static final Check CHECK = new Check("FrontTest");

    public static void main(String[] args) {
        newObjectHasNoProjectors();
        newObjectStandsAtNothing();
        newFrontIsFlatStone();
        newLevelIsHundred();
        columnHasSurface();
        columnHasRelief();
        reliefIsStoneBelow();
        columnRefuses();
        cellReturnsWhatWasThere();
        cellHoldsRays();
        cellRefuses();
        needTellsColumns();
        needRefuses();
        CHECK.end();
    }

    private static void newObjectHasNoProjectors() {
        FacadeShow x = new FacadeShow();
        CHECK.noSuch("1 aim", () -> { x.aim(0, 0, 0); return 0; });
        CHECK.noSuch("1 turn", () -> x.turn(0, true) ? 1 : 0);
        CHECK.noSuch("1 fail", () -> x.fail(0, true) ? 1 : 0);
        CHECK.noSuch("1 gives", () -> x.gives(0, 0));
        CHECK.badArgument("1 covered", () -> x.covered(1));
        CHECK.due("1 covered by none", x.covered(0), 0);
        CHECK.due("1 least", x.least(), 0);
        CHECK.due("1 leastAnew", x.leastAnew(), 0);
        CHECK.due("1 bears", x.bears(0), true);
        CHECK.due("1 breaches", x.breaches(), 0);
        CHECK.due("1 projector", x.projector(0, 3, 1, 0, 1), 0);
    }

    private static void newObjectStandsAtNothing() {
        FacadeShow x = new FacadeShow();
        for (int what = 0; what <= 5; what++) {
            CHECK.due("1 show " + what, x.show(what), 0);
        }
        for (int column = 0; column < 16; column++) {
            CHECK.due("1 light", x.light(column), 0);
            for (int row = 3; row <= 11; row++) {
                CHECK.due("1 cell", x.cell(column, row, FacadeShow.EMPTY), FacadeShow.EMPTY);
            }
        }
        for (int scene = 0; scene < 4; scene++) {
            CHECK.due("1 version", x.scene(scene, false), 0);
            CHECK.due("1 proposed", x.scene(scene, true), FacadeShow.NONE);
        }
        for (int phase = 0; phase < 3; phase++) {
            CHECK.due("1 phase", x.phase(phase, 5), 9999);
        }
        CHECK.due("1 wind", x.wind(0), 0);
        x.projector(0, 3, 1, 0, 1);
        CHECK.due("1 ready", x.ready(0, 0), 0);
        CHECK.due("1 on", x.turn(0, true), false);
        CHECK.due("1 failed", x.fail(0, false), false);
        x.pass(1440);
        CHECK.due("1 no curfew", x.show(2), 0);
    }

    private static void newFrontIsFlatStone() {
        for (int column = 0; column < 16; column++) {
            FacadeShow x = new FacadeShow();
            x.projector(column, 10, 167, 0, 10);
            x.aim(0, column, column);
            CHECK.due("1 stone of column " + column, x.gives(0, column), 100);
        }
    }

    private static void newLevelIsHundred() {
        FacadeShow x = new FacadeShow();
        x.projector(0, 10, 167, 0, 10);
        x.projector(15, 10, 166, 0, 10);
        x.aim(0, 0, 0);
        x.aim(1, 15, 15);
        CHECK.due("1 light 99", x.gives(1, 15), 99);
        CHECK.due("1 level", x.covered(3), 1);
    }

    private static void columnHasSurface() {
        FacadeShow x = new FacadeShow();
        x.projector(5, 10, 167, 0, 10);
        x.aim(0, 5, 5);
        x.column(5, 0, FacadeShow.BRICK);
        CHECK.due("2 brick", x.gives(0, 5), 66);
        x.column(5, 0, FacadeShow.GLASS);
        CHECK.due("2 glass", x.gives(0, 5), 0);
        x.column(5, 0, FacadeShow.STONE);
        CHECK.due("2 stone", x.gives(0, 5), 100);
    }

    private static void columnHasRelief() {
        FacadeShow x = new FacadeShow();
        x.projector(5, 10, 167, 0, 10);
        x.aim(0, 5, 5);
        x.column(5, 1, FacadeShow.STONE);
        CHECK.due("2 relief 1", x.gives(0, 5), 123);
        x.column(5, 2, FacadeShow.STONE);
        CHECK.due("2 relief 2", x.gives(0, 5), 156);
        x.column(5, 0, FacadeShow.STONE);
        CHECK.due("2 relief 0", x.gives(0, 5), 100);
        x.column(0, 2, FacadeShow.GLASS);
        x.column(15, 2, FacadeShow.GLASS);
        CHECK.due("2 other columns", x.gives(0, 5), 100);
    }

    private static void reliefIsStoneBelow() {
        FacadeShow x = new FacadeShow();
        x.projector(0, 3, 300, 0, 3);
        x.aim(0, 3, 3);
        CHECK.due("2 free", x.gives(0, 3), 999);
        CHECK.due("2 through row 2", x.through(0, 3, 2), 1);
        CHECK.due("2 through row 1", x.through(0, 3, 1), 2);
        x.column(1, 2, FacadeShow.STONE);
        CHECK.due("2 what is seen is no stone in the way", x.gives(0, 3), 999);
        x.column(2, 1, FacadeShow.STONE);
        CHECK.due("2 what is seen of relief 1", x.gives(0, 3), 999);
        x.column(2, 2, FacadeShow.STONE);
        CHECK.due("2 stone in the way", x.gives(0, 3), 0);
    }

    private static void columnRefuses() {
        FacadeShow x = new FacadeShow();
        x.projector(5, 10, 167, 0, 10);
        x.aim(0, 5, 5);
        CHECK.noSuch("2 column -1", () -> { x.column(-1, 0, 0); return 0; });
        CHECK.noSuch("2 column 16", () -> { x.column(16, 0, 0); return 0; });
        CHECK.noSuch("2 column first", () -> { x.column(16, 3, 3); return 0; });
        CHECK.badArgument("2 relief -1", () -> { x.column(5, -1, 0); return 0; });
        CHECK.badArgument("2 relief 3", () -> { x.column(5, 3, 0); return 0; });
        CHECK.badArgument("2 surface -1", () -> { x.column(5, 2, -1); return 0; });
        CHECK.badArgument("2 surface 3", () -> { x.column(5, 2, 3); return 0; });
        CHECK.badArgument("2 relief far", () -> { x.column(5, Integer.MIN_VALUE, 1); return 0; });
        CHECK.due("2 nothing changed", x.gives(0, 5), 100);
    }

    private static void cellReturnsWhatWasThere() {
        FacadeShow x = new FacadeShow();
        int[][] cells = {{0, 3}, {0, 11}, {15, 3}, {15, 11}, {7, 6}};
        for (int[] cell : cells) {
            for (int what = 0; what <= 3; what++) {
                CHECK.due("3 first", x.cell(cell[0], cell[1], what), FacadeShow.EMPTY);
                CHECK.due("3 then", x.cell(cell[0], cell[1], FacadeShow.EMPTY), what);
            }
        }
        x.cell(7, 6, FacadeShow.NEST);
        CHECK.due("3 neighbour row", x.cell(7, 7, 0), FacadeShow.EMPTY);
        CHECK.due("3 neighbour column", x.cell(8, 6, 0), FacadeShow.EMPTY);
    }

    private static void cellHoldsRays() {
        FacadeShow x = new FacadeShow();
        x.projector(5, 10, 167, 0, 10);
        x.aim(0, 5, 5);
        for (int row = 3; row < 10; row++) {
            x.cell(5, row, FacadeShow.TREE);
            CHECK.due("3 tree", x.gives(0, 5), 0);
            x.cell(5, row, FacadeShow.PEOPLE);
            CHECK.due("3 people", x.gives(0, 5), 100);
            x.cell(5, row, FacadeShow.NEST);
            CHECK.due("3 nest", x.gives(0, 5), 100);
            x.cell(5, row, FacadeShow.EMPTY);
        }
        x.cell(5, 11, FacadeShow.TREE);
        x.cell(4, 5, FacadeShow.TREE);
        CHECK.due("3 tree beside", x.gives(0, 5), 100);
    }

    private static void cellRefuses() {
        FacadeShow x = new FacadeShow();
        x.projector(2, 5, 1, 0, 1);
        CHECK.noSuch("3 column -1", () -> x.cell(-1, 3, 0));
        CHECK.noSuch("3 column 16", () -> x.cell(16, 3, 0));
        CHECK.noSuch("3 row 2", () -> x.cell(0, 2, 0));
        CHECK.noSuch("3 row 12", () -> x.cell(0, 12, 0));
        CHECK.noSuch("3 row -1", () -> x.cell(1, -1, 0));
        CHECK.noSuch("3 cell first", () -> x.cell(0, 12, 4));
        CHECK.badArgument("3 what -1", () -> x.cell(0, 3, -1));
        CHECK.badArgument("3 what 4", () -> x.cell(0, 3, 4));
        CHECK.badArgument("3 what before mast", () -> x.cell(2, 5, 4));
        for (int what = 0; what <= 3; what++) {
            int told = what;
            CHECK.badState("3 mast", () -> x.cell(2, 5, told));
        }
        CHECK.due("3 nothing changed", x.cell(0, 3, 0), FacadeShow.EMPTY);
        CHECK.badState("3 still a mast", () -> x.projector(2, 5, 1, 0, 1));
    }

    private static void needTellsColumns() {
        FacadeShow x = new FacadeShow();
        x.projector(0, 10, 167, 0, 10);
        x.aim(0, 0, 0);
        x.need(1, 100);
        CHECK.due("4 column 0", x.least(), 1);
        x.need(1, 101);
        CHECK.due("4 level above", x.least(), FacadeShow.NONE);
        CHECK.due("4 level for covered", x.covered(1), 0);
        x.need(1, 1);
        CHECK.due("4 level 1", x.least(), 1);
        x.need(2, 1);
        CHECK.due("4 column 1", x.least(), FacadeShow.NONE);
        x.need(65535, 1);
        CHECK.due("4 all", x.least(), FacadeShow.NONE);
        x.need(0, 9999);
        CHECK.due("4 none", x.least(), 0);
        CHECK.due("4 level without need", x.covered(1), 0);
    }

    private static void needRefuses() {
        FacadeShow x = new FacadeShow();
        x.projector(0, 10, 167, 0, 10);
        x.aim(0, 0, 0);
        x.need(1, 100);
        CHECK.badArgument("4 columns -1", () -> { x.need(-1, 1); return 0; });
        CHECK.badArgument("4 columns 65536", () -> { x.need(65536, 1); return 0; });
        CHECK.badArgument("4 level 0", () -> { x.need(0, 0); return 0; });
        CHECK.badArgument("4 level -1", () -> { x.need(0, -1); return 0; });
        CHECK.badArgument("4 level 10000", () -> { x.need(0, 10000); return 0; });
        CHECK.due("4 nothing changed", x.least(), 1);
        CHECK.due("4 level unchanged", x.covered(1), 1);
    }
}
