/** Promises 16 to 19: covered, least, leastAnew, bears. */
final class CoverTest {
    private static final Check CHECK = new Check("CoverTest");

    public static void main(String[] args) {
        coveredNeedsLevel();
        coveredNeedsSharpness();
        coveredSparesWhatGivesNothing();
        coveredLeavesFailedOut();
        coveredAddsNothingOfFailed();
        coveredRefuses();
        leastIsOfNone();
        leastIsOfFewest();
        leastIsOfTheLeastNumber();
        leastLeavesFailedOut();
        leastLeavesUnsharpOut();
        leastOfAllTen();
        leastAnewLooksAnew();
        bearsEachFailure();
        bearsOnlyWhatCovers();
        bearsRefuses();
        CHECK.end();
    }

    private static void least(String what, FacadeShow x, int set) {
        CHECK.due(what, x.least(), set);
        CHECK.due(what + ", anew", x.leastAnew(), set == FacadeShow.NONE ? FacadeShow.NONE : Integer.bitCount(set));
    }

    /** Projectors straight before columns 0, 1 and so on, each giving its column just the level of 100. */
    private static FacadeShow straight(int projectors) {
        FacadeShow x = new FacadeShow();
        for (int number = 0; number < projectors; number++) {
            x.projector(number, 10, 167, number % 3, 10);
            x.aim(number, number, number);
        }
        return x;
    }

    /** Projectors of other rows before column 0 that give it these lights, all sharp, masts out of the way. */
    private static FacadeShow onNought(int... lights) {
        FacadeShow x = new FacadeShow();
        for (int number = 0; number < lights.length; number++) {
            int squares = 100 + number * number;
            // the least power that gives this light
            int power = 1;
            while (100 * power / squares * 60 / 100 < lights[number]) {
                power++;
            }
            x.projector(number, 10, power, 0, 10);
            x.aim(number, 0, 0);
            CHECK.due("light of " + number, x.gives(number, 0), lights[number]);
        }
        return x;
    }

    private static void coveredNeedsLevel() {
        FacadeShow x = onNought(60, 45, 9);
        x.need(0, 69);
        CHECK.due("16 none", x.covered(0), 0);
        CHECK.due("16 one", x.covered(1), 0);
        CHECK.due("16 just the level", x.covered(5), 1);
        x.need(0, 70);
        CHECK.due("16 below the level", x.covered(5), 0);
        CHECK.due("16 two", x.covered(3), 1);
        x.need(0, 114);
        CHECK.due("16 all", x.covered(7), 1);
        x.need(0, 115);
        CHECK.due("16 all below", x.covered(7), 0);
        FacadeShow many = straight(10);
        many.need(0, 100);
        CHECK.due("16 columns that are not needed", many.covered(1023), 1023);
        CHECK.due("16 on or off", many.covered(0x155), 0x155);
    }

    private static void coveredNeedsSharpness() {
        FacadeShow x = new FacadeShow();
        x.projector(4, 8, 200, 0, 8);
        x.aim(0, 3, 5);
        x.projector(5, 8, 200, 0, 6);
        x.aim(1, 5, 6);
        x.column(6, 1, FacadeShow.STONE);
        CHECK.due("16 the sharp one", x.covered(1), 0x38);
        CHECK.due("16 the other where it is sharp", x.covered(2), 0x40);
        CHECK.due("16 one blurs the other", x.covered(3), 0x58);
    }

    private static void coveredSparesWhatGivesNothing() {
        FacadeShow x = onNought(100);
        x.projector(3, 5, 9999, 0, 1);
        CHECK.due("16 unsharp, not aimed", x.covered(3), 1);
        x.aim(1, 0, 0);
        CHECK.due("16 unsharp", x.covered(3), 0);
        x.cell(2, 3, FacadeShow.TREE);
        CHECK.due("16 is blocked", x.gives(1, 0), 0);
        CHECK.due("16 unsharp, blocked", x.covered(3), 1);
        FacadeShow dark = onNought(100);
        dark.projector(3, 11, 2, 0, 1);
        dark.aim(1, 0, 0);
        CHECK.due("16 rounded to nothing", dark.gives(1, 0), 0);
        CHECK.due("16 unsharp, but too dark", dark.covered(3), 1);
        dark.projector(4, 11, 3, 0, 1);
        dark.aim(2, 0, 0);
        CHECK.due("16 just some", dark.gives(2, 0), 1);
        CHECK.due("16 unsharp, not too dark", dark.covered(5), 0);
        FacadeShow glass = new FacadeShow();
        glass.projector(0, 10, 9999, 0, 10);
        glass.aim(0, 0, 0);
        glass.column(0, 0, FacadeShow.GLASS);
        glass.need(0, 1);
        CHECK.due("16 glass is never covered", glass.covered(1), 0);
    }

    private static void coveredLeavesFailedOut() {
        FacadeShow x = onNought(100, 100);
        x.projector(3, 5, 9999, 0, 1);
        x.aim(2, 0, 0);
        x.fail(0, true);
        CHECK.due("16 failed", x.covered(1), 0);
        CHECK.due("16 failed and another", x.covered(3), 1);
        CHECK.due("16 unsharp", x.covered(7), 0);
        x.fail(2, true);
        CHECK.due("16 unsharp and failed", x.covered(7), 1);
        x.fail(0, false);
        CHECK.due("16 mended", x.covered(1), 1);
    }

    private static void coveredAddsNothingOfFailed() {
        FacadeShow x = onNought(99, 1);
        CHECK.due("16 both", x.covered(3), 1);
        x.fail(1, true);
        CHECK.due("16 the lesser failed", x.covered(3), 0);
        x.fail(0, true);
        CHECK.due("16 both failed", x.covered(3), 0);
    }

    private static void coveredRefuses() {
        FacadeShow x = straight(3);
        CHECK.badArgument("16 -1", () -> x.covered(-1));
        CHECK.badArgument("16 8", () -> x.covered(8));
        CHECK.badArgument("16 least int", () -> x.covered(Integer.MIN_VALUE));
        CHECK.due("16 all three", x.covered(7), 7);
        FacadeShow ten = straight(10);
        CHECK.badArgument("16 1024", () -> ten.covered(1024));
    }

    private static void leastIsOfNone() {
        FacadeShow x = straight(2);
        least("17 no need", x, 0);
        x.need(4, 100);
        least("17 none can", x, FacadeShow.NONE);
        FacadeShow bare = new FacadeShow();
        bare.need(1, 1);
        least("17 no projectors", bare, FacadeShow.NONE);
    }

    private static void leastIsOfFewest() {
        FacadeShow x = onNought(10, 50, 50, 90, 100);
        x.need(1, 100);
        least("17 one, though of greater number", x, 16);
        x.need(1, 101);
        least("17 two of a greater level", x, 10);
        x.need(1, 190);
        least("17 two", x, 24);
        x.need(1, 250);
        least("17 four", x, 27);
        x.need(1, 251);
        least("17 four others", x, 30);
        x.need(1, 300);
        least("17 all", x, 31);
        x.need(1, 301);
        least("17 none", x, FacadeShow.NONE);
    }

    private static void leastIsOfTheLeastNumber() {
        FacadeShow x = onNought(10, 50, 50, 90);
        x.need(1, 100);
        least("17 of two pairs", x, 6);
        FacadeShow alike = onNought(100, 100, 100);
        alike.need(1, 100);
        least("17 of three", alike, 1);
        alike.need(1, 200);
        least("17 of three pairs", alike, 3);
    }

    private static void leastLeavesFailedOut() {
        FacadeShow x = onNought(100, 100, 50, 50);
        x.need(1, 100);
        x.fail(0, true);
        least("17 the first failed", x, 2);
        x.fail(1, true);
        least("17 two failed", x, 12);
        x.fail(3, true);
        least("17 three failed", x, FacadeShow.NONE);
        x.need(0, 100);
        least("17 no need", x, 0);
        x.need(1, 100);
        x.fail(1, false);
        least("17 mended", x, 2);
    }

    private static void leastLeavesUnsharpOut() {
        FacadeShow x = new FacadeShow();
        x.projector(0, 10, 9999, 0, 8);
        x.aim(0, 0, 1);
        x.projector(1, 10, 170, 0, 9);
        x.aim(1, 0, 1);
        x.projector(2, 10, 200, 0, 11);
        x.aim(2, 0, 0);
        x.need(1, 100);
        least("17 not the unsharp one", x, 2);
        x.need(3, 100);
        least("17 both columns", x, 2);
        x.need(1, 101);
        least("17 the next", x, 4);
        x.column(1, 1, FacadeShow.STONE);
        x.need(2, 100);
        least("17 sharp by the relief", x, 1);
        x.need(3, 100);
        least("17 sharp in both", x, 2);
    }

    private static void leastOfAllTen() {
        FacadeShow x = straight(10);
        x.need(1023, 100);
        least("17 all ten", x, 1023);
        x.need(0x2aa, 100);
        least("17 every second", x, 0x2aa);
        x.fail(9, true);
        least("17 the last failed", x, FacadeShow.NONE);
        x.need(0x1ff, 100);
        least("17 without the last", x, 0x1ff);
    }

    private static void leastAnewLooksAnew() {
        FacadeShow x = onNought(100, 100);
        x.need(1, 200);
        CHECK.due("18 two", x.leastAnew(), 2);
        x.need(1, 100);
        CHECK.due("18 one", x.leastAnew(), 1);
        x.cell(0, 5, FacadeShow.TREE);
        CHECK.due("18 one beside a tree", x.leastAnew(), 1);
        x.fail(1, true);
        CHECK.due("18 the other failed", x.leastAnew(), FacadeShow.NONE);
        x.cell(0, 5, FacadeShow.EMPTY);
        CHECK.due("18 no tree", x.leastAnew(), 1);
        x.need(0, 100);
        CHECK.due("18 no need", x.leastAnew(), 0);
    }

    private static void bearsEachFailure() {
        FacadeShow x = onNought(100, 60, 40, 50);
        x.need(1, 100);
        CHECK.due("19 one", x.bears(1), false);
        CHECK.due("19 none", x.bears(0), false);
        CHECK.due("19 two that cover just so", x.bears(6), false);
        CHECK.due("19 three, the first may not fail", x.bears(13), false);
        CHECK.due("19 three", x.bears(7), true);
        CHECK.due("19 four", x.bears(15), true);
        x.fail(0, true);
        CHECK.due("19 one failed already", x.bears(7), false);
        CHECK.due("19 four, one failed already", x.bears(15), false);
        x.need(0, 100);
        CHECK.due("19 no need", x.bears(15), true);
        CHECK.due("19 no need, none", x.bears(0), true);
    }

    private static void bearsOnlyWhatCovers() {
        FacadeShow x = onNought(100, 100);
        x.projector(2, 10, 9999, 0, 1);
        x.aim(2, 0, 0);
        x.need(1, 100);
        CHECK.due("19 two", x.bears(3), true);
        CHECK.due("19 with one that blurs", x.bears(7), false);
        x.fail(2, true);
        CHECK.due("19 with one that blurs, failed", x.bears(7), true);
        FacadeShow ten = onNought(20, 20, 20, 20, 20, 20, 20, 20, 20, 20);
        ten.need(1, 180);
        CHECK.due("19 all ten, any may fail", ten.bears(1023), true);
        ten.need(1, 181);
        CHECK.due("19 all ten, none may fail", ten.bears(1023), false);
        FacadeShow lastCounts = onNought(10, 10, 10, 10, 10, 10, 10, 10, 10, 20);
        lastCounts.need(1, 91);
        CHECK.due("19 the last may not fail", lastCounts.bears(1023), false);
    }

    private static void bearsRefuses() {
        FacadeShow x = straight(3);
        CHECK.badArgument("19 -1", () -> x.bears(-1) ? 1 : 0);
        CHECK.badArgument("19 8", () -> x.bears(8) ? 1 : 0);
        CHECK.badArgument("19 greatest int", () -> x.bears(Integer.MAX_VALUE) ? 1 : 0);
        CHECK.due("19 all three", x.bears(7), true);
    }
}
