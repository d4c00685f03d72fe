/** The edges of sheets: the terms of SHEETS, and promises 9 and 10. */
final class SheetEdges {
    private static final int MIN = Integer.MIN_VALUE;
    private static final int MAX = Integer.MAX_VALUE;

    private SheetEdges() {
    }

    @Says(section = "SHEETS", words = "A sheet is 40 wide")
    static void pieces40WideFitBesideOneAnother(Check check) {
        Springleaf page = new Springleaf();
        flat(page, 30, 1);
        flat(page, 10, 1);
        flat(page, 1, 1);
        laid(check, page, 1, 0, 30, 0);
        laid(check, page, 2, 0, 0, 1);
        Springleaf wider = new Springleaf();
        flat(wider, 30, 1);
        flat(wider, 11, 1);
        laid(check, wider, 1, 0, 0, 1);
    }

    @Says(section = "SHEETS", words = "and 30 high")
    static void pieces30HighFitBelowOneAnother(Check check) {
        Springleaf page = new Springleaf();
        flat(page, 30, 10);
        flat(page, 30, 10);
        flat(page, 30, 10);
        laid(check, page, 2, 0, 0, 20);
        check.due("sheets() of 30 high", 1, () -> page.sheets());
        flat(page, 11, 1);
        laid(check, page, 3, 1, 0, 0);
        Springleaf single = new Springleaf();
        turned(single, 30, 10);
        check.due("sheets() of one piece 30 high", 1, () -> single.sheets());
    }

    @Says(section = "SHEETS", words = "its grain goes across the width")
    static void theLengthOfAPartThatEasesGoesAcrossTheWidth(Check check) {
        Springleaf page = new Springleaf();
        flat(page, 30, 1);
        flat(page, 30, 1);
        // Laid across the width they need a shelf each; along the height the second would go beside the first.
        laid(check, page, 1, 0, 0, 1);
    }

    @Says(section = "SHEETS", words = "as wide as it is long and as high as its band is wide, if it is to bend easily")
    static void aPartThatEasesIsLaidFlat(Check check) {
        Springleaf page = new Springleaf();
        flat(page, 7, 3);
        flat(page, 1, 3);
        flat(page, 1, 4);
        laid(check, page, 1, 0, 7, 0);
        laid(check, page, 2, 0, 0, 3);
    }

    @Says(section = "SHEETS", words = "otherwise turned")
    static void anotherPartIsTurned(Check check) {
        Springleaf page = new Springleaf();
        turned(page, 7, 3);
        turned(page, 7, 1);
        turned(page, 8, 1);
        laid(check, page, 1, 0, 3, 0);
        laid(check, page, 2, 0, 0, 7);
    }

    @Says(section = "SHEETS", words = "Parts are laid by numbers")
    static void theOrderOfGluingIsNothingToTheSheets(Check check) {
        Springleaf page = new Springleaf();
        page.part(0, 0, 30, 0, 2, true);
        page.part(0, 0, 30, 2, 2, true);
        page.part(0, 0, 30, 4, 2, true);
        page.glue(2);
        page.glue(0);
        laid(check, page, 0, 0, 0, 0);
        laid(check, page, 1, 0, 0, 2);
        laid(check, page, 2, 0, 0, 4);
    }

    @Says(section = "SHEETS", words = "into the first shelf, of the sheets in their order")
    static void aShelfOfAnEarlierSheetGoesFirst(Check check) {
        Springleaf page = new Springleaf();
        turned(page, 20, 10);
        turned(page, 30, 1);
        flat(page, 30, 10);
        flat(page, 30, 10);
        laid(check, page, 1, 1, 0, 0);
        laid(check, page, 2, 0, 10, 0);
        laid(check, page, 3, 1, 1, 0);
        flat(page, 30, 10);
        laid(check, page, 4, 0, 0, 20);
        // Sheet 0 began this shelf later than sheet 1 its own, which has 9 left too.
        flat(page, 9, 10);
        laid(check, page, 5, 0, 30, 20);
    }

    @Says(section = "SHEETS", words = "from the top")
    static void theUpperShelfGoesFirst(Check check) {
        Springleaf page = new Springleaf();
        flat(page, 30, 4);
        flat(page, 30, 2);
        flat(page, 30, 3);
        flat(page, 5, 2);
        flat(page, 5, 2);
        flat(page, 5, 2);
        // Part 1 is as high as they need, part 0 is above it.
        laid(check, page, 3, 0, 30, 0);
        laid(check, page, 4, 0, 35, 0);
        laid(check, page, 5, 0, 30, 4);
    }

    @Says(section = "SHEETS", words = "that is as high as it needs, or higher")
    static void aShelfAsHighOrHigherButNoLowerOne(Check check) {
        Springleaf page = new Springleaf();
        flat(page, 5, 3);
        flat(page, 5, 3);
        flat(page, 5, 2);
        flat(page, 5, 4);
        laid(check, page, 1, 0, 5, 0);
        laid(check, page, 2, 0, 10, 0);
        laid(check, page, 3, 0, 0, 3);
    }

    @Says(section = "SHEETS", words = "and has so much width left")
    static void aShelfWithJustTheWidthLeft(Check check) {
        Springleaf page = new Springleaf();
        flat(page, 20, 2);
        flat(page, 15, 2);
        flat(page, 6, 2);
        flat(page, 5, 2);
        flat(page, 1, 2);
        laid(check, page, 2, 0, 0, 2);
        laid(check, page, 3, 0, 35, 0);
        // The first shelf is full now.
        laid(check, page, 4, 0, 6, 2);
    }

    @Says(section = "SHEETS", words = "otherwise it begins a shelf, as high as it needs, below the others")
    static void aShelfIsAsHighAsThePieceThatBeginsIt(Check check) {
        Springleaf page = new Springleaf();
        flat(page, 30, 5);
        flat(page, 20, 2);
        flat(page, 11, 3);
        flat(page, 15, 2);
        laid(check, page, 1, 0, 0, 5);
        // 20 are left beside part 1, but it is 2 high.
        laid(check, page, 2, 0, 0, 7);
        laid(check, page, 3, 0, 20, 5);
        flat(page, 30, 1);
        laid(check, page, 4, 0, 0, 10);
    }

    @Says(section = "SHEETS", words = "of the first sheet that has the height left")
    static void aShelfOnTheFirstSheetWithJustTheHeightLeft(Check check) {
        Springleaf page = new Springleaf();
        turned(page, 25, 10);
        turned(page, 28, 10);
        turned(page, 6, 9);
        laid(check, page, 1, 1, 0, 0);
        laid(check, page, 2, 0, 10, 0);
        flat(page, 30, 6);
        laid(check, page, 3, 1, 10, 0);
        // No shelf has a width of 30 left now; of the heights 5 are left on sheet 0, and 2 on sheet 1.
        flat(page, 30, 6);
        laid(check, page, 4, 2, 0, 0);
        flat(page, 30, 2);
        laid(check, page, 5, 0, 0, 25);
        flat(page, 30, 3);
        laid(check, page, 6, 0, 0, 27);
        flat(page, 30, 2);
        laid(check, page, 7, 1, 0, 28);
        flat(page, 30, 1);
        laid(check, page, 8, 2, 0, 6);
    }

    @Says(section = "SHEETS", words = "otherwise a sheet")
    static void aSheetWhereNoneHasTheHeightLeft(Check check) {
        Springleaf page = new Springleaf();
        turned(page, 21, 10);
        flat(page, 30, 10);
        flat(page, 30, 10);
        laid(check, page, 1, 0, 10, 0);
        laid(check, page, 2, 1, 0, 0);
        check.due("sheets()", 2, () -> page.sheets());
    }

    @Says(section = "Promise 9", words = "Returns how many sheets are needed")
    static void fromNoSheetToTheMost(Check check) {
        check.due("sheets() without parts", 0, () -> new Springleaf().sheets());
        Springleaf least = new Springleaf();
        flat(least, 1, 1);
        check.due("sheets() of one small part", 1, () -> least.sheets());
        Springleaf page = new Springleaf();
        for (int part = 0; part < 16; part++) {
            flat(page, 30, 10);
        }
        check.due("sheets() of 16 shelves 10 high", 6, () -> page.sheets());
        check.due("sheets() again", 6, () -> page.sheets());
        // A shelf 21 high leaves no room for a second one; 4 pieces 10 wide go beside one another.
        Springleaf high = new Springleaf();
        for (int part = 0; part < 16; part++) {
            turned(high, 21, 10);
        }
        check.due("sheets() of 16 pieces 21 high", 4, () -> high.sheets());
        high.resize(15, 30);
        check.due("sheets() with the last one 30 high", 5, () -> high.sheets());
        high.resize(15, 21);
        check.due("sheets() with the last one 21 high again", 4, () -> high.sheets());
        for (int part = 0; part < 16; part++) {
            high.resize(part, 1);
        }
        check.due("sheets() with all of them 1 high", 1, () -> high.sheets());
    }

    @Says(section = "Promise 10", words = "Tells where a part is laid")
    static void laidFollowsWhatIsBeforeAPart(Check check) {
        Springleaf page = new Springleaf();
        flat(page, 10, 2);
        flat(page, 10, 2);
        flat(page, 20, 2);
        laid(check, page, 2, 0, 20, 0);
        page.resize(0, 11);
        laid(check, page, 0, 0, 0, 0);
        laid(check, page, 1, 0, 11, 0);
        laid(check, page, 2, 0, 0, 2);
        page.resize(2, 19);
        laid(check, page, 2, 0, 21, 0);
    }

    @Says(section = "Promise 10", words = "`part`: its number")
    static void laidOfTheFirstAndLastPart(Check check) {
        Springleaf page = new Springleaf();
        for (int part = 0; part < 16; part++) {
            flat(page, 30, 10);
        }
        laid(check, page, 0, 0, 0, 0);
        laid(check, page, 2, 0, 0, 20);
        laid(check, page, 3, 1, 0, 0);
        laid(check, page, 14, 4, 0, 20);
        laid(check, page, 15, 5, 0, 0);
    }

    @Says(section = "Promise 10", words = "`what`: 0 its sheet; 1 how far from the left; 2 how far from the top")
    static void whatTooSmallAndTooLargeForLaid(Check check) {
        for (int what : new int[] {MIN, -1, 3, MAX}) {
            check.refuses(Check.ARGUMENT, "laid(0, " + what + ")", Pages::halfGlued, p -> p.laid(0, what));
        }
        Springleaf page = new Springleaf();
        turned(page, 30, 10);
        turned(page, 20, 10);
        flat(page, 30, 10);
        flat(page, 30, 10);
        flat(page, 5, 9);
        check.due("laid(4, 0)", 0, () -> page.laid(4, 0));
        check.due("laid(4, 1)", 20, () -> page.laid(4, 1));
        check.due("laid(4, 2)", 0, () -> page.laid(4, 2));
        check.due("laid(3, 0)", 1, () -> page.laid(3, 0));
        check.due("laid(3, 1)", 0, () -> page.laid(3, 1));
        check.due("laid(3, 2)", 10, () -> page.laid(3, 2));
    }

    @Says(section = "Promise 10", words = "Returns the number")
    static void askingForPlacesLaysNothingAnew(Check check) {
        Springleaf page = Pages.fullOfParts();
        check.due("laid(15, 1)", 35, () -> page.laid(15, 1));
        check.due("laid(15, 2)", 1, () -> page.laid(15, 2));
        check.due("laid(0, 1)", 0, () -> page.laid(0, 1));
        check.due("laid(15, 1) again", 35, () -> page.laid(15, 1));
        check.compare("the page", Pages.state(Pages.fullOfParts()), Pages.state(page));
    }

    @Says(section = "Promise 10", words = "Throws `IndexOutOfBoundsException` if there is no such part")
    static void laidOfNone(Check check) {
        for (int part : new int[] {MIN, Springleaf.NONE, 3, 16, MAX}) {
            check.refuses(Check.INDEX, "laid of " + part, Pages::halfGlued, p -> p.laid(part, 0));
            check.refuses(Check.INDEX, "laid of " + part + ", what 3", Pages::halfGlued, p -> p.laid(part, 3));
        }
        check.refuses(Check.INDEX, "laid of 16 of 16", Pages::fullOfParts, p -> p.laid(16, 0));
        check.refuses(Check.INDEX, "laid of 0 of a new page", Pages::fresh, p -> p.laid(0, 0));
    }

    @Says(section = "Promise 10", words = "Throws `IllegalArgumentException` if what is out of range")
    static void laidWithWrongWhat(Check check) {
        check.refuses(Check.ARGUMENT, "laid of the last part, what 3", Pages::fullOfParts, p -> p.laid(15, 3));
        check.refuses(Check.ARGUMENT, "laid of a bound page, what -1", Pages::bound, p -> p.laid(2, -1));
    }

    /** A part whose piece is as wide as it is long. */
    private static void flat(Springleaf page, int wide, int high) {
        page.part(0, 0, wide, 0, high, true);
    }

    /** A part whose piece is as high as it is long. */
    private static void turned(Springleaf page, int high, int wide) {
        page.part(0, 0, high, 0, wide, false);
    }

    private static void laid(Check check, Springleaf page, int part, int sheet, int left, int top) {
        String call = "laid(" + part + ", ";
        check.due(call + "0)", sheet, () -> page.laid(part, 0));
        check.due(call + "1)", left, () -> page.laid(part, 1));
        check.due(call + "2)", top, () -> page.laid(part, 2));
    }
}
