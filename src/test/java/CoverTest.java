import java.io.IOException;

/** Promises 16 to 19: covered, least, leastAnew, bears. */
final class CoverTest {
    private static final Check CHECK = new Check("CoverTest");

    public static void main(String[] args) throws IOException {
        Quotes quotes = new Quotes(CHECK, Document.promises(16, 19));
        quotes.test("16 Returns which columns are well covered", CoverTest::coveredNeedsLevel,
                CoverTest::coveredNeedsSharpness, CoverTest::coveredSparesWhatGivesNothing,
                CoverTest::coveredLeavesFailedOut, CoverTest::coveredAddsNothingOfFailed);
        quotes.test("16 - `projectors`", CoverTest::coveredTakesEachSet);
        quotes.test("16 Returns the set of columns.", CoverTest::coveredMayBeNoneOrAll);
        quotes.test("16 Throws `IllegalArgument", CoverTest::coveredRefuses);
        quotes.test("17 Returns the least set.", CoverTest::leastIsOfFewest, CoverTest::leastIsOfTheLeastNumber,
                CoverTest::leastLeavesFailedOut, CoverTest::leastLeavesUnsharpOut, CoverTest::leastOfAllTen);
        quotes.test("17 Returns the set; NONE if there is none.", CoverTest::leastIsOfNone);
        quotes.test("18 Returns how many projectors the least set has", CoverTest::leastAnewLooksAnew,
                CoverTest::leastAnewOfAnyMany);
        quotes.test("18 Returns how many; NONE if there is no such set.", CoverTest::leastAnewOfNone);
        quotes.test("19 Tells whether a set of projectors bears a failure.", CoverTest::bearsEachFailure,
                CoverTest::bearsOnlyWhatCovers);
        quotes.test("19 - `projectors`", CoverTest::bearsTakesEachSet);
        quotes.test("19 Throws `IllegalArgument", CoverTest::bearsRefuses);
        quotes.end();
    }

    private static void least(String what, FacadeShow x, int set) {
        CHECK.due(what, x.least(), set);
        CHECK.due(what + ", anew", x.leastAnew(), set == FacadeShow.NONE ? FacadeShow.NONE : Integer.bitCount(set));
    }

    /** Projectors straight before columns 0, 1 and so on, each giving its column just the level of 100. */
    private static FacadeShow straight(int projectors) {
        FacadeShow x = new FacadeShow();
        for (int number = 0; number < projectors; number++) {
            x.projector(number, 10, 167, number % 3, 10);
            x.aim(number, number, number);
        }
        return x;
    }

    /** Projectors of other rows before column 0 that give it these lights, all sharp, masts out of the way. */
    private static FacadeShow onNought(int... lights) {
        FacadeShow x = new FacadeShow();
        for (int number = 0; number < lights.length; number++) {
            int squares = 100 + number * number;
            // the least power that gives this light
            int power = 1;
            while (100 * power / squares * 60 / 100 < lights[number]) {
                power++;
            }
            x.projector(number, 10, power, 0, 10);
            x.aim(number, 0, 0);
            CHECK.due("light of " + number, x.gives(number, 0), lights[number]);
        }
        return x;
    }

    private static void coveredNeedsLevel() {
        FacadeShow x = onNought(60, 45, 9);
        x.need(0, 69);
        CHECK.due("none", x.covered(0), 0);
        CHECK.due("one", x.covered(1), 0);
        CHECK.due("just the level", x.covered(5), 1);
        x.need(0, 70);
        CHECK.due("below the level", x.covered(5), 0);
        CHECK.due("two", x.covered(3), 1);
        x.need(0, 114);
        CHECK.due("all", x.covered(7), 1);
        x.need(0, 115);
        CHECK.due("all below", x.covered(7), 0);
        FacadeShow many = straight(10);
        many.need(0, 100);
        CHECK.due("columns that are not needed", many.covered(1023), 1023);
        CHECK.due("on or off", many.covered(0x155), 0x155);
    }

    private static void coveredNeedsSharpness() {
        FacadeShow x = new FacadeShow();
        x.projector(4, 8, 200, 0, 8);
        x.aim(0, 3, 5);
        x.projector(5, 8, 200, 0, 6);
        x.aim(1, 5, 6);
        x.column(6, 1, FacadeShow.STONE);
        CHECK.due("the sharp one", x.covered(1), 0x38);
        CHECK.due("the other where it is sharp", x.covered(2), 0x40);
        CHECK.due("one blurs the other", x.covered(3), 0x58);
    }

    private static void coveredSparesWhatGivesNothing() {
        FacadeShow x = onNought(100);
        x.projector(3, 5, 9999, 0, 1);
        CHECK.due("unsharp, not aimed", x.covered(3), 1);
        x.aim(1, 0, 0);
        CHECK.due("unsharp", x.covered(3), 0);
        x.cell(2, 3, FacadeShow.TREE);
        CHECK.due("is blocked", x.gives(1, 0), 0);
        CHECK.due("unsharp, blocked", x.covered(3), 1);
        FacadeShow dark = onNought(100);
        dark.projector(3, 11, 2, 0, 1);
        dark.aim(1, 0, 0);
        CHECK.due("rounded to nothing", dark.gives(1, 0), 0);
        CHECK.due("unsharp, but too dark", dark.covered(3), 1);
        dark.projector(4, 11, 3, 0, 1);
        dark.aim(2, 0, 0);
        CHECK.due("just some", dark.gives(2, 0), 1);
        CHECK.due("unsharp, not too dark", dark.covered(5), 0);
        FacadeShow glass = new FacadeShow();
        glass.projector(0, 10, 9999, 0, 10);
        glass.aim(0, 0, 0);
        glass.column(0, 0, FacadeShow.GLASS);
        glass.need(0, 1);
        CHECK.due("glass is never covered", glass.covered(1), 0);
    }

    private static void coveredLeavesFailedOut() {
        FacadeShow x = onNought(100, 100);
        x.projector(3, 5, 9999, 0, 1);
        x.aim(2, 0, 0);
        x.fail(0, true);
        CHECK.due("failed", x.covered(1), 0);
        CHECK.due("failed and another", x.covered(3), 1);
        CHECK.due("unsharp", x.covered(7), 0);
        x.fail(2, true);
        CHECK.due("unsharp and failed", x.covered(7), 1);
        x.fail(0, false);
        CHECK.due("mended", x.covered(1), 1);
    }

    private static void coveredAddsNothingOfFailed() {
        FacadeShow x = onNought(99, 1);
        CHECK.due("both", x.covered(3), 1);
        x.fail(1, true);
        CHECK.due("the lesser failed", x.covered(3), 0);
        x.fail(0, true);
        CHECK.due("both failed", x.covered(3), 0);
    }

    private static void coveredTakesEachSet() {
        FacadeShow x = straight(6);
        for (int set = 0; set < 64; set++) {
            CHECK.due("set " + set, x.covered(set), set);
        }
        FacadeShow ten = straight(10);
        CHECK.due("all ten", ten.covered(1023), 1023);
        CHECK.due("the tenth", ten.covered(512), 512);
        CHECK.due("no projectors, none of them", new FacadeShow().covered(0), 0);
    }

    private static void coveredMayBeNoneOrAll() {
        FacadeShow x = new FacadeShow();
        x.projector(3, 11, 9999, 0, 11);
        x.projector(12, 11, 9999, 1, 11);
        CHECK.due("none aimed", x.covered(3), 0);
        x.aim(0, 0, 7);
        CHECK.due("the lower half", x.covered(3), 0x00ff);
        x.aim(1, 8, 15);
        CHECK.due("all", x.covered(3), 0xffff);
        CHECK.due("the upper half", x.covered(2), 0xff00);
        CHECK.due("by none of them", x.covered(0), 0);
    }

    private static void coveredRefuses() {
        CHECK.badArgument("no projectors, one of them", () -> new FacadeShow().covered(1));
        for (int many = 0; many <= 10; many++) {
            FacadeShow x = straight(many);
            CHECK.range("of " + many, 0, (1 << many) - 1, set -> x.covered(set));
            CHECK.badArgument("far others of " + many, () -> x.covered(1 << 16));
        }
    }

    private static void leastIsOfNone() {
        FacadeShow x = straight(2);
        least("no need", x, 0);
        x.need(4, 100);
        least("none can", x, FacadeShow.NONE);
        FacadeShow bare = new FacadeShow();
        bare.need(1, 1);
        least("no projectors", bare, FacadeShow.NONE);
    }

    private static void leastIsOfFewest() {
        FacadeShow x = onNought(10, 50, 50, 90, 100);
        x.need(1, 100);
        least("one, though of greater number", x, 16);
        x.need(1, 101);
        least("two of a greater level", x, 10);
        x.need(1, 190);
        least("two", x, 24);
        x.need(1, 250);
        least("four", x, 27);
        x.need(1, 251);
        least("four others", x, 30);
        x.need(1, 300);
        least("all", x, 31);
        x.need(1, 301);
        least("none", x, FacadeShow.NONE);
    }

    private static void leastIsOfTheLeastNumber() {
        FacadeShow x = onNought(10, 50, 50, 90);
        x.need(1, 100);
        least("of two pairs", x, 6);
        FacadeShow alike = onNought(100, 100, 100);
        alike.need(1, 100);
        least("of three", alike, 1);
        alike.need(1, 200);
        least("of three pairs", alike, 3);
    }

    private static void leastLeavesFailedOut() {
        FacadeShow x = onNought(100, 100, 50, 50);
        x.need(1, 100);
        x.fail(0, true);
        least("the first failed", x, 2);
        x.fail(1, true);
        least("two failed", x, 12);
        x.fail(3, true);
        least("three failed", x, FacadeShow.NONE);
        x.need(0, 100);
        least("no need", x, 0);
        x.need(1, 100);
        x.fail(1, false);
        least("mended", x, 2);
    }

    private static void leastLeavesUnsharpOut() {
        FacadeShow x = new FacadeShow();
        x.projector(0, 10, 9999, 0, 8);
        x.aim(0, 0, 1);
        x.projector(1, 10, 170, 0, 9);
        x.aim(1, 0, 1);
        x.projector(2, 10, 200, 0, 11);
        x.aim(2, 0, 0);
        x.need(1, 100);
        least("not the unsharp one", x, 2);
        x.need(3, 100);
        least("both columns", x, 2);
        x.need(1, 101);
        least("the next", x, 4);
        x.column(1, 1, FacadeShow.STONE);
        x.need(2, 100);
        least("sharp by the relief", x, 1);
        x.need(3, 100);
        least("sharp in both", x, 2);
    }

    private static void leastOfAllTen() {
        FacadeShow x = straight(10);
        x.need(1023, 100);
        least("all ten", x, 1023);
        x.need(0x2aa, 100);
        least("every second", x, 0x2aa);
        x.fail(9, true);
        least("the last failed", x, FacadeShow.NONE);
        x.need(0x1ff, 100);
        least("without the last", x, 0x1ff);
    }

    private static void leastAnewLooksAnew() {
        FacadeShow x = onNought(100, 100);
        x.need(1, 200);
        CHECK.due("two", x.leastAnew(), 2);
        x.need(1, 100);
        CHECK.due("one", x.leastAnew(), 1);
        x.cell(0, 5, FacadeShow.TREE);
        CHECK.due("one beside a tree", x.leastAnew(), 1);
        x.fail(1, true);
        CHECK.due("the other failed", x.leastAnew(), FacadeShow.NONE);
        x.cell(0, 5, FacadeShow.EMPTY);
        CHECK.due("no tree", x.leastAnew(), 1);
        x.need(0, 100);
        CHECK.due("no need", x.leastAnew(), 0);
    }

    private static void leastAnewOfAnyMany() {
        FacadeShow x = straight(10);
        for (int many = 0; many <= 10; many++) {
            x.need((1 << many) - 1, 100);
            CHECK.due("as many", x.leastAnew(), many);
            x.need(1023 ^ (1 << many) - 1, 100);
            CHECK.due("the others", x.leastAnew(), 10 - many);
        }
    }

    private static void leastAnewOfNone() {
        FacadeShow x = new FacadeShow();
        CHECK.due("no projectors", x.leastAnew(), 0);
        x.need(1, 1);
        CHECK.due("no projectors, one column", x.leastAnew(), FacadeShow.NONE);
        FacadeShow ten = straight(10);
        ten.need(1024, 1);
        CHECK.due("ten projectors, another column", ten.leastAnew(), FacadeShow.NONE);
        ten.need(1, 101);
        CHECK.due("just too little light", ten.leastAnew(), FacadeShow.NONE);
        ten.need(1, 100);
        CHECK.due("just enough", ten.leastAnew(), 1);
        ten.fail(0, true);
        CHECK.due("failed", ten.leastAnew(), FacadeShow.NONE);
        ten.need(0, 100);
        CHECK.due("none needed", ten.leastAnew(), 0);
    }

    private static void bearsEachFailure() {
        FacadeShow x = onNought(100, 60, 40, 50);
        x.need(1, 100);
        CHECK.due("one", x.bears(1), false);
        CHECK.due("none", x.bears(0), false);
        CHECK.due("two that cover just so", x.bears(6), false);
        CHECK.due("three, the first may not fail", x.bears(13), false);
        CHECK.due("three", x.bears(7), true);
        CHECK.due("four", x.bears(15), true);
        x.fail(0, true);
        CHECK.due("one failed already", x.bears(7), false);
        CHECK.due("four, one failed already", x.bears(15), false);
        x.need(0, 100);
        CHECK.due("no need", x.bears(15), true);
        CHECK.due("no need, none", x.bears(0), true);
    }

    private static void bearsOnlyWhatCovers() {
        FacadeShow x = onNought(100, 100);
        x.projector(2, 10, 9999, 0, 1);
        x.aim(2, 0, 0);
        x.need(1, 100);
        CHECK.due("two", x.bears(3), true);
        CHECK.due("with one that blurs", x.bears(7), false);
        x.fail(2, true);
        CHECK.due("with one that blurs, failed", x.bears(7), true);
        FacadeShow ten = onNought(20, 20, 20, 20, 20, 20, 20, 20, 20, 20);
        ten.need(1, 180);
        CHECK.due("all ten, any may fail", ten.bears(1023), true);
        ten.need(1, 181);
        CHECK.due("all ten, none may fail", ten.bears(1023), false);
        FacadeShow lastCounts = onNought(10, 10, 10, 10, 10, 10, 10, 10, 10, 20);
        lastCounts.need(1, 91);
        CHECK.due("the last may not fail", lastCounts.bears(1023), false);
    }

    private static void bearsTakesEachSet() {
        FacadeShow x = straight(4);
        for (int set = 0; set < 16; set++) {
            CHECK.due("none needed, set " + set, x.bears(set), true);
        }
        FacadeShow three = onNought(100, 100, 100);
        three.need(1, 100);
        for (int set = 0; set < 8; set++) {
            CHECK.due("one needed, set " + set, three.bears(set), Integer.bitCount(set) >= 2);
        }
        FacadeShow ten = straight(10);
        CHECK.due("all ten", ten.bears(1023), true);
        ten.need(512, 100);
        CHECK.due("all ten, the tenth may not fail", ten.bears(1023), false);
    }

    private static void bearsRefuses() {
        CHECK.badArgument("no projectors, one of them", () -> new FacadeShow().bears(1) ? 1 : 0);
        for (int many = 0; many <= 10; many++) {
            FacadeShow x = straight(many);
            CHECK.range("of " + many, 0, (1 << many) - 1, set -> x.bears(set) ? 1 : 0);
            CHECK.badArgument("far others of " + many, () -> x.bears(1 << 16) ? 1 : 0);
        }
    }
}
