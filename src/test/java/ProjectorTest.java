/** Promises 5 to 15: projector, aim, turn, fail, phase, wind, through, gives, isSharp, light, blended. */
final class ProjectorTest {
    private static final Check CHECK = new Check("ProjectorTest");

    public static void main(String[] args) {
        projectorsAreNumbered();
        projectorCoversNothing();
        projectorRefusesArguments();
        projectorRefusesCells();
        aimCoversBothEnds();
        aimRefuses();
        turnAnswersWhatWas();
        turnKeepsWhatPhaseBears();
        failTakesLight();
        phaseTells();
        windShifts();
        windRefuses();
        throughRounds();
        throughNeedsRowBetween();
        throughRefuses();
        givesByDistance();
        givesNothingThroughMast();
        givesRefuses();
        sharpnessIsOneAround();
        sharpnessRefuses();
        lightAddsUp();
        blendedKeepsLevel();
        blendedOfGreatNumbers();
        blendedRefuses();
        CHECK.end();
    }

    private static void projectorsAreNumbered() {
        FacadeShow x = new FacadeShow();
        for (int number = 0; number < 10; number++) {
            CHECK.due("5 number", x.projector(number, 3 + number % 9, 1 + number, number % 3, 1 + number), number);
        }
        CHECK.badState("5 eleventh", () -> x.projector(15, 11, 9999, 2, 11));
        CHECK.due("5 no mast of the eleventh", x.cell(15, 11, 0), FacadeShow.EMPTY);
        CHECK.badArgument("5 argument before count", () -> x.projector(15, 11, 0, 2, 11));
        CHECK.noSuch("5 there is no tenth", () -> x.gives(10, 0));
        FacadeShow edges = new FacadeShow();
        CHECK.due("5 low edges", edges.projector(0, 3, 1, 0, 1), 0);
        CHECK.due("5 high edges", edges.projector(15, 11, 9999, 2, 11), 1);
    }

    private static void projectorCoversNothing() {
        FacadeShow x = new FacadeShow();
        x.projector(3, 3, 9999, 0, 3);
        for (int wind = 0; wind <= 8; wind++) {
            x.wind(wind);
            for (int column = 0; column < 16; column++) {
                CHECK.due("5 covers no column", x.gives(0, column), 0);
            }
        }
        CHECK.due("5 off", x.show(5), 0);
        CHECK.due("5 was off", x.turn(0, false), false);
        CHECK.due("5 has not failed", x.fail(0, false), false);
        CHECK.due("5 ready for 0", x.ready(0, 0), 0);
    }

    private static void projectorRefusesArguments() {
        FacadeShow x = new FacadeShow();
        CHECK.noSuch("5 column -1", () -> x.projector(-1, 3, 1, 0, 1));
        CHECK.noSuch("5 column 16", () -> x.projector(16, 3, 1, 0, 1));
        CHECK.noSuch("5 row 2", () -> x.projector(0, 2, 1, 0, 1));
        CHECK.noSuch("5 row 12", () -> x.projector(0, 12, 1, 0, 1));
        CHECK.noSuch("5 cell first", () -> x.projector(0, 12, 0, 3, 0));
        CHECK.badArgument("5 power 0", () -> x.projector(0, 3, 0, 0, 1));
        CHECK.badArgument("5 power 10000", () -> x.projector(0, 3, 10000, 0, 1));
        CHECK.badArgument("5 phase -1", () -> x.projector(0, 3, 1, -1, 1));
        CHECK.badArgument("5 phase 3", () -> x.projector(0, 3, 1, 3, 1));
        CHECK.badArgument("5 focus 0", () -> x.projector(0, 3, 1, 0, 0));
        CHECK.badArgument("5 focus 12", () -> x.projector(0, 3, 1, 0, 12));
        CHECK.noSuch("5 nothing set up", () -> x.gives(0, 0));
        CHECK.due("5 no mast", x.cell(0, 3, 0), FacadeShow.EMPTY);
        CHECK.due("5 first number", x.projector(0, 3, 1, 0, 1), 0);
    }

    private static void projectorRefusesCells() {
        FacadeShow x = new FacadeShow();
        for (int what = 1; what <= 3; what++) {
            x.cell(4, 4, what);
            CHECK.badState("5 not empty", () -> x.projector(4, 4, 1, 0, 1));
            CHECK.badArgument("5 argument before cell", () -> x.projector(4, 4, 1, 0, 12));
        }
        x.cell(4, 4, FacadeShow.EMPTY);
        CHECK.due("5 empty again", x.projector(4, 4, 1, 0, 1), 0);
        CHECK.badState("5 has a mast", () -> x.projector(4, 4, 1, 0, 1));
        CHECK.due("5 next number", x.projector(4, 5, 1, 0, 1), 1);
    }

    private static int columnsGiven(FacadeShow x, int projector) {
        int columns = 0;
        for (int column = 0; column < 16; column++) {
            if (x.gives(projector, column) > 0) {
                columns |= 1 << column;
            }
        }
        return columns;
    }

    private static void aimCoversBothEnds() {
        FacadeShow x = new FacadeShow();
        x.projector(3, 3, 9999, 0, 3);
        x.aim(0, 0, 7);
        CHECK.due("6 0 to 7", columnsGiven(x, 0), 0x00ff);
        x.aim(0, 8, 15);
        CHECK.due("6 8 to 15", columnsGiven(x, 0), 0xff00);
        x.aim(0, 5, 5);
        CHECK.due("6 one", columnsGiven(x, 0), 0x0020);
        x.aim(0, 15, 15);
        CHECK.due("6 the last", columnsGiven(x, 0), 0x8000);
        x.aim(0, 0, 0);
        CHECK.due("6 the first", columnsGiven(x, 0), 0x0001);
        x.projector(4, 4, 9999, 0, 3);
        x.aim(1, 2, 4);
        CHECK.due("6 its own", columnsGiven(x, 0), 0x0001);
    }

    private static void aimRefuses() {
        FacadeShow x = new FacadeShow();
        x.projector(3, 3, 9999, 0, 3);
        x.aim(0, 2, 4);
        CHECK.noSuch("6 projector -1", () -> { x.aim(-1, 0, 0); return 0; });
        CHECK.noSuch("6 projector 1", () -> { x.aim(1, 5, 4); return 0; });
        CHECK.noSuch("6 from -1", () -> { x.aim(0, -1, 0); return 0; });
        CHECK.noSuch("6 from 16", () -> { x.aim(0, 16, 15); return 0; });
        CHECK.noSuch("6 to 16", () -> { x.aim(0, 15, 16); return 0; });
        CHECK.noSuch("6 to 16, too far", () -> { x.aim(0, 3, 16); return 0; });
        CHECK.noSuch("6 to -1", () -> { x.aim(0, 3, -1); return 0; });
        CHECK.badArgument("6 below", () -> { x.aim(0, 5, 4); return 0; });
        CHECK.badArgument("6 too far", () -> { x.aim(0, 0, 8); return 0; });
        CHECK.badArgument("6 too far at the end", () -> { x.aim(0, 7, 15); return 0; });
        CHECK.due("6 nothing changed", columnsGiven(x, 0), 0x001c);
    }

    private static void turnAnswersWhatWas() {
        FacadeShow x = new FacadeShow();
        x.projector(3, 3, 9999, 0, 3);
        CHECK.due("7 on", x.turn(0, true), false);
        CHECK.due("7 on again", x.turn(0, true), true);
        CHECK.due("7 one is on", x.show(5), 1);
        CHECK.due("7 off", x.turn(0, false), true);
        CHECK.due("7 off again", x.turn(0, false), false);
        CHECK.due("7 none is on", x.show(5), 0);
        CHECK.noSuch("7 projector 1", () -> x.turn(1, true) ? 1 : 0);
        CHECK.noSuch("7 projector -1", () -> x.turn(-1, false) ? 1 : 0);
    }

    private static void turnKeepsWhatPhaseBears() {
        FacadeShow x = new FacadeShow();
        x.projector(0, 5, 6000, 1, 5);
        x.projector(1, 5, 3999, 1, 5);
        x.projector(2, 5, 1, 1, 5);
        x.projector(3, 5, 9999, 2, 5);
        CHECK.due("7 first", x.turn(0, true), false);
        CHECK.due("7 just what it bears", x.turn(1, true), false);
        CHECK.badState("7 one more", () -> x.turn(2, true) ? 1 : 0);
        CHECK.due("7 it is off still", x.turn(2, false), false);
        CHECK.due("7 another phase", x.turn(3, true), false);
        x.fail(0, true);
        CHECK.badState("7 a failed one counts", () -> x.turn(2, true) ? 1 : 0);
        x.phase(1, 0);
        CHECK.due("7 on already", x.turn(1, true), true);
        CHECK.badState("7 bears nothing", () -> x.turn(2, true) ? 1 : 0);
        x.phase(1, 9999);
        x.turn(1, false);
        CHECK.due("7 room again", x.turn(2, true), false);
        x.phase(1, 10000);
        CHECK.due("7 bears more", x.turn(1, true), false);
        x.turn(1, false);
        x.turn(0, false);
        x.turn(2, false);
        x.phase(1, 3998);
        CHECK.badState("7 alone too much", () -> x.turn(1, true) ? 1 : 0);
    }

    private static void failTakesLight() {
        FacadeShow x = new FacadeShow();
        x.projector(5, 10, 167, 0, 10);
        x.aim(0, 5, 5);
        x.turn(0, true);
        CHECK.due("8 light", x.light(5), 100);
        CHECK.due("8 fails", x.fail(0, true), false);
        CHECK.due("8 fails again", x.fail(0, true), true);
        CHECK.due("8 no light", x.light(5), 0);
        CHECK.due("8 on still", x.show(5), 1);
        CHECK.due("8 gives all the same", x.gives(0, 5), 100);
        x.turn(0, false);
        x.turn(0, true);
        CHECK.due("8 no light till mended", x.light(5), 0);
        CHECK.due("8 mended", x.fail(0, false), true);
        CHECK.due("8 mended again", x.fail(0, false), false);
        CHECK.due("8 light again", x.light(5), 100);
        CHECK.noSuch("8 projector 1", () -> x.fail(1, true) ? 1 : 0);
        CHECK.noSuch("8 projector -1", () -> x.fail(-1, true) ? 1 : 0);
    }

    private static void phaseTells() {
        FacadeShow x = new FacadeShow();
        CHECK.due("9 first", x.phase(0, 0), 9999);
        CHECK.due("9 then", x.phase(0, 99999), 0);
        CHECK.due("9 at last", x.phase(0, 7), 99999);
        CHECK.due("9 others", x.phase(2, 8), 9999);
        CHECK.badArgument("9 phase -1", () -> x.phase(-1, 0));
        CHECK.badArgument("9 phase 3", () -> x.phase(3, 0));
        CHECK.badArgument("9 power -1", () -> x.phase(0, -1));
        CHECK.badArgument("9 power 100000", () -> x.phase(0, 100000));
        CHECK.due("9 nothing changed", x.phase(0, 7), 7);
        x.projector(0, 3, 8, 2, 3);
        x.turn(0, true);
        x.phase(2, 0);
        CHECK.due("9 what is on stays on", x.show(5), 1);
        x.turn(0, false);
        CHECK.badState("9 from now on", () -> x.turn(0, true) ? 1 : 0);
    }

    private static void windShifts() {
        FacadeShow x = new FacadeShow();
        x.projector(3, 3, 9999, 0, 3);
        x.projector(9, 3, 9999, 0, 3);
        x.aim(0, 2, 4);
        x.aim(1, 12, 15);
        int[] first = {0x1c, 0x1c, 0x1c, 0x1c, 0x38, 0x70, 0xe0, 0x1c0, 0x380};
        int[] second = {0xf000, 0xf000, 0xf000, 0xf000, 0xe000, 0xc000, 0x8000, 0, 0};
        for (int wind = 0; wind <= 8; wind++) {
            CHECK.due("10 wind before", x.wind(wind), wind == 0 ? 0 : wind - 1);
            CHECK.due("10 shifted by " + wind, columnsGiven(x, 0), first[wind]);
            CHECK.due("10 lost by " + wind, columnsGiven(x, 1), second[wind]);
        }
        CHECK.due("10 back", x.wind(0), 8);
        CHECK.due("10 as aimed", columnsGiven(x, 1), 0xf000);
    }

    private static void windRefuses() {
        FacadeShow x = new FacadeShow();
        x.wind(8);
        CHECK.badArgument("10 wind -1", () -> x.wind(-1));
        CHECK.badArgument("10 wind 9", () -> x.wind(9));
        CHECK.due("10 nothing changed", x.wind(8), 8);
    }

    private static void throughRounds() {
        FacadeShow x = new FacadeShow();
        x.projector(4, 8, 1, 0, 1);
        int[] toFive = {5, 5, 5, 5, 4, 4, 4};
        int[] toThree = {3, 3, 3, 4, 4, 4, 4};
        int[] toFifteen = {14, 12, 11, 10, 8, 7, 5};
        int[] toNought = {1, 1, 2, 2, 3, 3, 4};
        int[] toSeven = {7, 6, 6, 6, 5, 5, 4};
        int[] toOne = {1, 2, 2, 3, 3, 3, 4};
        for (int row = 1; row < 8; row++) {
            CHECK.due("11 to 4 in row " + row, x.through(0, 4, row), 4);
            CHECK.due("11 to 5 in row " + row, x.through(0, 5, row), toFive[row - 1]);
            CHECK.due("11 to 3 in row " + row, x.through(0, 3, row), toThree[row - 1]);
            CHECK.due("11 to 15 in row " + row, x.through(0, 15, row), toFifteen[row - 1]);
            CHECK.due("11 to 0 in row " + row, x.through(0, 0, row), toNought[row - 1]);
            CHECK.due("11 to 7 in row " + row, x.through(0, 7, row), toSeven[row - 1]);
            CHECK.due("11 to 1 in row " + row, x.through(0, 1, row), toOne[row - 1]);
        }
    }

    private static void throughNeedsRowBetween() {
        FacadeShow x = new FacadeShow();
        x.projector(4, 8, 1, 0, 1);
        x.column(6, 2, FacadeShow.STONE);
        x.column(7, 1, FacadeShow.STONE);
        for (int row = 8; row < 12; row++) {
            CHECK.due("11 row beyond the projector", x.through(0, 4, row), FacadeShow.NONE);
        }
        CHECK.due("11 row of what is seen", x.through(0, 4, 0), FacadeShow.NONE);
        CHECK.due("11 row of relief 1", x.through(0, 7, 1), FacadeShow.NONE);
        CHECK.due("11 row before relief 1", x.through(0, 7, 2), 7);
        CHECK.due("11 row in relief 2", x.through(0, 6, 1), FacadeShow.NONE);
        CHECK.due("11 row of relief 2", x.through(0, 6, 2), FacadeShow.NONE);
        CHECK.due("11 row before relief 2", x.through(0, 6, 3), 6);
        CHECK.due("11 half way to relief 2", x.through(0, 6, 5), 5);
    }

    private static void throughRefuses() {
        FacadeShow x = new FacadeShow();
        x.projector(4, 8, 1, 0, 1);
        CHECK.noSuch("11 projector -1", () -> x.through(-1, 0, 0));
        CHECK.noSuch("11 projector 1", () -> x.through(1, 0, 0));
        CHECK.noSuch("11 column -1", () -> x.through(0, -1, 0));
        CHECK.noSuch("11 column 16", () -> x.through(0, 16, 0));
        CHECK.noSuch("11 row -1", () -> x.through(0, 0, -1));
        CHECK.noSuch("11 row 12", () -> x.through(0, 0, 12));
    }

    private static void givesByDistance() {
        FacadeShow x = new FacadeShow();
        x.projector(4, 8, 200, 0, 8);
        x.aim(0, 2, 6);
        int[] due = {0, 0, 176, 184, 187, 184, 176, 0, 0, 0, 0, 0, 0, 0, 0, 0};
        for (int column = 0; column < 16; column++) {
            CHECK.due("12 column " + column, x.gives(0, column), due[column]);
        }
        x.fail(0, true);
        CHECK.due("12 off and failed", x.gives(0, 4), 187);
        x.projector(0, 3, 9999, 0, 3);
        x.column(0, 2, FacadeShow.STONE);
        x.aim(1, 0, 0);
        CHECK.due("12 the most", x.gives(1, 0), 599940);
        x.projector(15, 11, 1, 0, 11);
        x.aim(2, 15, 15);
        CHECK.due("12 less than one", x.gives(2, 15), 0);
    }

    private static void givesNothingThroughMast() {
        FacadeShow x = new FacadeShow();
        x.projector(4, 8, 200, 0, 8);
        x.aim(0, 4, 4);
        x.projector(4, 9, 200, 0, 8);
        CHECK.due("12 mast behind", x.gives(0, 4), 187);
        x.projector(4, 3, 200, 0, 8);
        CHECK.due("12 mast before", x.gives(0, 4), 0);
        CHECK.due("12 goes on as a ray", x.through(0, 4, 3), 4);
    }

    private static void givesRefuses() {
        FacadeShow x = new FacadeShow();
        x.projector(4, 8, 1, 0, 1);
        CHECK.noSuch("12 projector -1", () -> x.gives(-1, 0));
        CHECK.noSuch("12 projector 1", () -> x.gives(1, 0));
        CHECK.noSuch("12 column -1", () -> x.gives(0, -1));
        CHECK.noSuch("12 column 16", () -> x.gives(0, 16));
    }

    private static void sharpnessIsOneAround() {
        for (int focus = 1; focus <= 11; focus++) {
            FacadeShow x = new FacadeShow();
            x.projector(4, 8, 1, 0, focus);
            x.cell(4, 5, FacadeShow.TREE);
            for (int relief = 0; relief <= 2; relief++) {
                x.column(4, relief, FacadeShow.GLASS);
                x.column(15, relief, FacadeShow.STONE);
                int rows = 8 - relief;
                boolean due = focus == rows || focus == rows - 1 || focus == rows + 1;
                CHECK.due("13 focus " + focus + " over " + rows, x.isSharp(0, 4), due);
                CHECK.due("13 aside, focus " + focus + " over " + rows, x.isSharp(0, 15), due);
            }
        }
    }

    private static void sharpnessRefuses() {
        FacadeShow x = new FacadeShow();
        x.projector(4, 8, 1, 0, 1);
        CHECK.noSuch("13 projector -1", () -> x.isSharp(-1, 0) ? 1 : 0);
        CHECK.noSuch("13 projector 1", () -> x.isSharp(1, 0) ? 1 : 0);
        CHECK.noSuch("13 column -1", () -> x.isSharp(0, -1) ? 1 : 0);
        CHECK.noSuch("13 column 16", () -> x.isSharp(0, 16) ? 1 : 0);
    }

    private static void lightAddsUp() {
        FacadeShow x = new FacadeShow();
        x.projector(4, 8, 200, 0, 8);
        x.projector(5, 8, 200, 0, 1);
        x.projector(6, 8, 200, 0, 8);
        x.aim(0, 4, 4);
        x.aim(1, 4, 5);
        x.aim(2, 6, 6);
        CHECK.due("14 all off", x.light(4), 0);
        x.turn(0, true);
        CHECK.due("14 one", x.light(4), 187);
        x.turn(1, true);
        x.turn(2, true);
        CHECK.due("14 two, one unsharp", x.light(4), 187 + 184);
        CHECK.due("14 another column", x.light(6), 187);
        x.fail(0, true);
        CHECK.due("14 one failed", x.light(4), 184);
        x.turn(1, false);
        CHECK.due("14 none left", x.light(4), 0);
        CHECK.noSuch("14 column -1", () -> x.light(-1));
        CHECK.noSuch("14 column 16", () -> x.light(16));
    }

    private static void blendedKeepsLevel() {
        FacadeShow x = new FacadeShow();
        x.projector(4, 8, 200, 0, 8);
        x.projector(5, 8, 200, 0, 8);
        x.aim(0, 4, 5);
        x.aim(1, 4, 4);
        CHECK.due("15 off", x.blended(0, 4), 0);
        x.turn(0, true);
        CHECK.due("15 one alone", x.blended(0, 4), 100);
        CHECK.due("15 the other off", x.blended(1, 4), 0);
        x.turn(1, true);
        CHECK.due("15 one of two", x.blended(0, 4), 50);
        CHECK.due("15 the other of two", x.blended(1, 4), 49);
        CHECK.due("15 not covered", x.blended(1, 5), 0);
        x.need(0, 371);
        CHECK.due("15 just the level", x.blended(0, 4), 187);
        x.need(0, 370);
        CHECK.due("15 above the level", x.blended(0, 4), 186);
        x.need(0, 9999);
        CHECK.due("15 below the level", x.blended(1, 4), 184);
        x.need(0, 100);
        x.fail(1, true);
        CHECK.due("15 failed", x.blended(1, 4), 0);
        CHECK.due("15 without the failed one", x.blended(0, 4), 100);
    }

    private static void blendedOfGreatNumbers() {
        FacadeShow x = new FacadeShow();
        x.projector(0, 3, 9999, 0, 3);
        x.projector(1, 3, 9999, 1, 3);
        x.column(0, 2, FacadeShow.STONE);
        x.aim(0, 0, 0);
        x.aim(1, 0, 0);
        x.turn(0, true);
        x.turn(1, true);
        x.need(1, 9999);
        CHECK.due("15 great light", x.light(0), 599940 + 299970);
        CHECK.due("15 great share", x.blended(0, 0), 6666);
        CHECK.due("15 lesser share", x.blended(1, 0), 3333);
    }

    private static void blendedRefuses() {
        FacadeShow x = new FacadeShow();
        x.projector(4, 8, 1, 0, 1);
        CHECK.noSuch("15 projector -1", () -> x.blended(-1, 0));
        CHECK.noSuch("15 projector 1", () -> x.blended(1, 0));
        CHECK.noSuch("15 column -1", () -> x.blended(0, -1));
        CHECK.noSuch("15 column 16", () -> x.blended(0, 16));
    }
}
