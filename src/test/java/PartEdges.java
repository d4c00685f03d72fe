/** The edges of parts: the terms of PARTS, and promises 3, 6, 7 and 8. */
final class PartEdges {
    private static final int MIN = Integer.MIN_VALUE;
    private static final int MAX = Integer.MAX_VALUE;

    private PartEdges() {
    }

    @Says(section = "PARTS", words = "Parts are numbered from 0, at most 16")
    static void partsAre16(Check check) {
        Springleaf page = new Springleaf();
        for (int number = 0; number <= 15; number++) {
            check.due("part " + number, number, () -> page.part(0, 0, 1, 0, 1, true));
        }
        check.throwing("part 16", Check.STATE, () -> page.part(0, 0, 1, 0, 1, true));
        check.due("where(15, 90, 0)", 1, () -> page.where(15, 90, 0));
        check.throwing("where(16, 90, 0)", Check.INDEX, () -> page.where(16, 90, 0));
    }

    @Says(section = "PARTS", words = "A part stands on a fold")
    static void partStandsOnTheFirstOrLastFold(Check check) {
        Springleaf page = new Springleaf();
        page.fold(0, 2, 0);
        page.fold(1, 2, 0);
        page.part(0, 0, 30, 0, 1, true);
        page.part(1, 0, 30, 0, 1, true);
        page.part(2, 0, 30, 0, 1, true);
        // With the page at 180 the folds are at 180, 90 and 45.
        where(check, page, 0, 180, 0, -30, 0);
        where(check, page, 1, 180, 30, 0, 0);
        where(check, page, 2, 180, 15, 0, 15);
    }

    @Says(section = "PARTS", words = "begins at a place of the page, 0 to 60")
    static void partBeginsAtTheFirstOrLastPlace(Check check) {
        Springleaf page = new Springleaf();
        page.part(0, 0, 30, 0, 1, true);
        page.part(0, 60, 30, 0, 1, true);
        where(check, page, 0, 90, 30, 0, 0);
        where(check, page, 1, 90, 30, 60, 60);
        // Only where a part begins is 0 to 60: it may reach beyond.
        where(check, page, 0, 180, 0, -30, 0);
        where(check, page, 1, 0, 0, 60, 90);
    }

    @Says(section = "PARTS", words = "is 1 to 30 long")
    static void leastAndGreatestLength(Check check) {
        Springleaf page = new Springleaf();
        page.part(0, 10, 1, 0, 1, true);
        page.part(0, 10, 30, 0, 1, true);
        where(check, page, 0, 0, 0, 10, 11);
        where(check, page, 1, 0, 0, 10, 40);
        where(check, page, 0, 90, 1, 10, 10);
        where(check, page, 1, 90, 30, 10, 10);
    }

    @Says(section = "PARTS", words = "from a line, 0 to 20, on")
    static void firstAndLastLine(Check check) {
        Springleaf page = new Springleaf();
        page.part(0, 10, 9, 0, 1, true);
        page.part(0, 10, 9, 20, 1, true);
        page.part(0, 10, 9, 1, 10, true);
        page.part(0, 10, 9, 11, 10, true);
        // The lines 1 to 10 lie behind line 0, and 11 to 20 have the last one.
        meets(check, page, 0, 2, 90, false);
        meets(check, page, 0, 3, 90, false);
        meets(check, page, 1, 2, 90, false);
        meets(check, page, 1, 3, 90, true);
    }

    @Says(section = "PARTS", words = "1 to 10 lines wide")
    static void leastAndGreatestBand(Check check) {
        Springleaf page = new Springleaf();
        page.part(0, 10, 9, 20, 10, true);
        page.part(0, 10, 9, 11, 10, true);
        page.part(0, 10, 9, 10, 10, true);
        page.part(0, 10, 9, 19, 1, true);
        page.part(0, 10, 9, 20, 1, true);
        // Only where a band begins is 0 to 20: one may go on to line 29.
        meets(check, page, 0, 1, 90, true);
        meets(check, page, 0, 2, 90, false);
        meets(check, page, 0, 3, 90, false);
        meets(check, page, 0, 4, 90, true);
    }

    @Says(section = "PARTS", words = "its length times the lesser one of g and 180 less g, divided by 90, rounded down")
    static void partRisesAndFalls(Check check) {
        Springleaf page = new Springleaf();
        page.part(0, 10, 30, 0, 1, true);
        page.part(0, 10, 1, 0, 1, true);
        rises(check, page, 0, 0, 0);
        // 30 * 2 / 90 is less than 1, 30 * 3 / 90 is 1.
        rises(check, page, 0, 2, 0);
        rises(check, page, 0, 3, 1);
        rises(check, page, 0, 89, 29);
        rises(check, page, 0, 90, 30);
        rises(check, page, 0, 91, 29);
        rises(check, page, 0, 177, 1);
        rises(check, page, 0, 178, 0);
        rises(check, page, 0, 180, 0);
        rises(check, page, 1, 89, 0);
        rises(check, page, 1, 90, 1);
        rises(check, page, 1, 91, 0);
    }

    @Says(section = "PARTS", words = "its length times (90 less g), divided by 90, rounded toward 0, together")
    static void partReachesForwardAndBack(Check check) {
        Springleaf page = new Springleaf();
        page.part(0, 10, 9, 0, 1, true);
        // A whole place is ten degrees; what is less than one is none, before 90 and behind it.
        where(check, page, 0, 0, 0, 10, 19);
        where(check, page, 0, 1, 0, 10, 18);
        where(check, page, 0, 80, 8, 10, 11);
        where(check, page, 0, 81, 8, 10, 10);
        where(check, page, 0, 99, 8, 10, 10);
        where(check, page, 0, 100, 8, 9, 10);
        where(check, page, 0, 179, 0, 2, 10);
        where(check, page, 0, 180, 0, 1, 10);
    }

    @Says(section = "PARTS", words = "its span goes from the lesser one of both to the greater one, both included")
    static void spanHasBothEnds(Check check) {
        Springleaf page = new Springleaf();
        page.part(0, 10, 9, 0, 1, true);
        page.part(0, 14, 9, 0, 1, true);
        page.part(0, 15, 9, 0, 1, true);
        where(check, page, 0, 45, 4, 10, 14);
        where(check, page, 0, 90, 9, 10, 10);
        where(check, page, 1, 135, 4, 10, 14);
        meets(check, page, 0, 1, 45, true);
        meets(check, page, 0, 2, 45, false);
        meets(check, page, 0, 1, 135, true);
        meets(check, page, 0, 2, 135, false);
    }

    @Says(section = "PARTS", words = "if their bands have a line in common")
    static void bandsThatTouchShareALineOrNone(Check check) {
        Springleaf page = new Springleaf();
        page.part(0, 30, 9, 5, 5, true);
        page.part(0, 30, 9, 9, 1, true);
        page.part(0, 30, 9, 10, 1, true);
        page.part(0, 30, 9, 5, 1, true);
        page.part(0, 30, 9, 4, 1, true);
        page.part(0, 30, 9, 0, 10, true);
        page.part(0, 30, 9, 6, 2, true);
        meets(check, page, 0, 1, 90, true);
        meets(check, page, 0, 2, 90, false);
        meets(check, page, 0, 3, 90, true);
        meets(check, page, 0, 4, 90, false);
        // A band round the other, and one inside it.
        meets(check, page, 0, 5, 90, true);
        meets(check, page, 0, 6, 90, true);
    }

    @Says(section = "PARTS", words = "their spans a place")
    static void spansThatTouchShareAPlaceOrNone(Check check) {
        Springleaf page = new Springleaf();
        page.part(0, 30, 9, 0, 1, true);
        page.part(0, 30, 9, 0, 1, true);
        page.part(0, 31, 9, 0, 1, true);
        page.part(0, 34, 9, 0, 1, true);
        page.part(0, 35, 9, 0, 1, true);
        // Upright a span is one place.
        meets(check, page, 0, 1, 90, true);
        meets(check, page, 0, 2, 90, false);
        // At 45 it is its place and the four behind it, at 135 the four before it.
        meets(check, page, 0, 2, 45, true);
        meets(check, page, 0, 3, 45, true);
        meets(check, page, 0, 4, 45, false);
        meets(check, page, 0, 3, 135, true);
        meets(check, page, 0, 4, 135, false);
    }

    @Says(section = "PARTS", words = "both rise above 0")
    static void partsThatLieDoNotMeet(Check check) {
        Springleaf page = new Springleaf();
        page.part(0, 30, 10, 0, 1, true);
        page.part(0, 30, 10, 0, 1, true);
        page.part(0, 30, 11, 0, 1, true);
        meets(check, page, 0, 1, 0, false);
        meets(check, page, 0, 1, 8, false);
        meets(check, page, 0, 1, 9, true);
        meets(check, page, 0, 1, 171, true);
        meets(check, page, 0, 1, 172, false);
        meets(check, page, 0, 1, 180, false);
        // One of them rises to 1, the other to 0, which differ by no more than 1.
        page.resize(2, 12);
        rises(check, page, 0, 8, 0);
        rises(check, page, 2, 8, 1);
        meets(check, page, 0, 2, 8, false);
        meets(check, page, 0, 2, 172, false);
    }

    @Says(section = "PARTS", words = "what they rise to differs by at most 1")
    static void risesDifferBy0Or1(Check check) {
        Springleaf page = new Springleaf();
        page.part(0, 30, 10, 0, 1, true);
        page.part(0, 30, 10, 0, 1, true);
        page.part(0, 30, 11, 0, 1, true);
        page.part(0, 30, 12, 0, 1, true);
        page.part(0, 30, 30, 0, 1, true);
        meets(check, page, 0, 1, 90, true);
        meets(check, page, 0, 2, 90, true);
        meets(check, page, 0, 3, 90, false);
        meets(check, page, 2, 3, 90, true);
        meets(check, page, 0, 4, 90, false);
        // With an angle of 45 they rise to 5, 5, 5, 6 and 15.
        meets(check, page, 0, 3, 45, true);
        meets(check, page, 0, 4, 45, false);
    }

    @Says(section = "PARTS", words = "Two parts meet with an angle of the page")
    static void partsOfOtherFoldsMeet(Check check) {
        Springleaf page = new Springleaf();
        page.fold(0, 4, 90);
        page.part(0, 30, 10, 0, 1, true);
        page.part(1, 30, 10, 0, 1, true);
        // The angles are 45 and 135: both rise to 5, one forward from 30, one back.
        meets(check, page, 0, 1, 45, true);
        meets(check, page, 0, 1, 0, false);
        meets(check, page, 0, 1, 40, true);
        meets(check, page, 0, 1, 41, true);
        meets(check, page, 0, 1, 54, false);
        meets(check, page, 0, 1, 90, false);
    }

    @Says(section = "PARTS", words = "opens a page from 0 to 180 degrees by 15")
    static void testerLooksAt0At180AndAtNothingBetweenItsSteps(Check check) {
        Springleaf first = new Springleaf();
        first.fold(0, 8, 90);
        addTwins(first, 1);
        // The fold is upright at 0 and held at 180 from 45 on.
        check.due("test() of parts that meet at 0", 0, () -> first.test());

        Springleaf last = new Springleaf();
        last.fold(0, 4, -90);
        last.fold(1, 4, -75);
        addTwins(last, 2);
        // The fold leaves 0 behind 165, and is at 15 with 180.
        meets(check, last, 0, 1, 165, false);
        check.due("test() of parts that meet at 180", 180, () -> last.test());

        Springleaf between = new Springleaf();
        between.fold(0, 8, -30);
        between.fold(1, 8, 0);
        between.fold(2, 8, 0);
        between.fold(3, 8, 0);
        addTwins(between, 4);
        // The fold is at 0 with 15, and at 180 from 27 on.
        meets(check, between, 0, 1, 22, true);
        check.due("test() of parts that meet between 15 and 30", Springleaf.NONE, () -> between.test());
    }

    @Says(section = "PARTS", words = "at the first angle at which any two parts meet while opening")
    static void testerTellsEachOfItsAngles(Check check) {
        for (int angle = 15; angle <= 165; angle += 15) {
            int due = angle;
            Springleaf page = new Springleaf();
            page.fold(0, 4, angle <= 90 ? 0 : -90);
            int past = angle <= 90 ? angle - 1 : angle - 91;
            page.fold(1, 4, -past);
            page.fold(2, 8, 0);
            page.fold(3, 8, 0);
            addTwins(page, 4);
            // The leans take off all but a degree of what is due; the pulls make 4 of that, and 30 * 4 / 90 is 1.
            check.due("test() of parts that meet from " + due + " on", due, () -> page.test());
        }
    }

    @Says(section = "PARTS", words = "what jams is, at the first angle")
    static void theEarlierAngleGoesBeforeTheEarlierPart(Check check) {
        Springleaf page = new Springleaf();
        // At 15 degrees a length of 5 rises to 0 and one of 6 to 1; at 30 both rise to 1 or 2.
        page.part(0, 5, 5, 20, 1, true);
        page.part(0, 5, 5, 20, 1, true);
        check.due("test() of the short ones", 30, () -> page.test());
        page.part(0, 50, 6, 0, 1, true);
        page.part(0, 50, 6, 0, 1, true);
        check.due("test() with longer ones behind them", 2015, () -> page.test());
        page.resize(1, 6);
        check.due("test() where one of the short ones is longer", 2015, () -> page.test());
        page.resize(0, 6);
        check.due("test() where both are", 15, () -> page.test());
    }

    @Says(section = "PARTS", words = "the first part, by numbers, that meets another one there")
    static void theFirstPartThatMeetsAnyOtherIsTold(Check check) {
        Springleaf page = new Springleaf();
        page.part(0, 0, 30, 20, 1, true);
        page.part(0, 50, 6, 0, 1, true);
        page.part(0, 30, 6, 5, 1, true);
        page.part(0, 30, 6, 5, 1, true);
        check.due("test() of parts 2 and 3", 2015, () -> page.test());
        // Part 1 meets none but the last of all, and goes before 2, which meets the one next to it.
        page.part(0, 50, 6, 0, 1, true);
        check.due("test() of parts 1 and 4 too", 1015, () -> page.test());
    }

    @Says(section = "PARTS", words = "and closes it likewise")
    static void testingLeavesThePageAsItIs(Check check) {
        Springleaf page = Pages.jammed();
        check.due("test()", 15, () -> page.test());
        check.due("test() again", 15, () -> page.test());
        check.compare("the page", Pages.state(Pages.jammed()), Pages.state(page));
    }

    @Says(section = "Promise 3", words = "Makes a part")
    static void partMakesOne(Check check) {
        Springleaf page = new Springleaf();
        page.part(0, 10, 9, 0, 3, true);
        where(check, page, 0, 0, 0, 10, 19);
        check.throwing("where(1, 0, 0)", Check.INDEX, () -> page.where(1, 0, 0));
        check.due("glued(0)", Springleaf.NONE, () -> page.glued(0));
        check.due("isBound()", false, page.isBound());
    }

    @Says(section = "Promise 3", words = "`fold`: its fold")
    static void partOnTheLastOf12Folds(Check check) {
        Springleaf page = Pages.fullOfFolds();
        check.due("part on 11", 0, () -> page.part(11, 10, 9, 0, 1, true));
        check.due("part on 0", 1, () -> page.part(0, 10, 9, 0, 1, true));
        check.throwing("part on 12", Check.INDEX, () -> page.part(12, 10, 9, 0, 1, true));
        where(check, page, 0, 45, 4, 10, 14);
        where(check, page, 1, 45, 4, 10, 14);
    }

    @Says(section = "Promise 3", words = "`place`: 0 to 60")
    static void placeTooSmallAndTooLarge(Check check) {
        for (int place : new int[] {MIN, -1, 61, MAX}) {
            check.refuses(Check.ARGUMENT, "part, place " + place, Pages::halfGlued,
                    p -> p.part(0, place, 1, 0, 1, true));
        }
        check.due("part, place 0", 0, () -> new Springleaf().part(0, 0, 1, 0, 1, true));
        check.due("part, place 60", 0, () -> new Springleaf().part(0, 60, 1, 0, 1, true));
    }

    @Says(section = "Promise 3", words = "`length`: 1 to 30")
    static void lengthTooSmallAndTooLarge(Check check) {
        for (int length : new int[] {MIN, -1, 0, 31, MAX}) {
            check.refuses(Check.ARGUMENT, "part, length " + length, Pages::halfGlued,
                    p -> p.part(0, 0, length, 0, 1, true));
        }
        check.due("part, length 1", 0, () -> new Springleaf().part(0, 0, 1, 0, 1, true));
        check.due("part, length 30", 0, () -> new Springleaf().part(0, 0, 30, 0, 1, true));
    }

    @Says(section = "Promise 3", words = "`line`: 0 to 20")
    static void lineTooSmallAndTooLarge(Check check) {
        for (int line : new int[] {MIN, -1, 21, MAX}) {
            check.refuses(Check.ARGUMENT, "part, line " + line, Pages::halfGlued,
                    p -> p.part(0, 0, 1, line, 1, true));
        }
        check.due("part, line 0", 0, () -> new Springleaf().part(0, 0, 1, 0, 1, true));
        check.due("part, line 20", 0, () -> new Springleaf().part(0, 0, 1, 20, 1, true));
    }

    @Says(section = "Promise 3", words = "`lines`: 1 to 10")
    static void linesTooFewAndTooMany(Check check) {
        for (int lines : new int[] {MIN, -1, 0, 11, MAX}) {
            check.refuses(Check.ARGUMENT, "part, lines " + lines, Pages::halfGlued,
                    p -> p.part(0, 0, 1, 0, lines, true));
        }
        check.due("part, lines 1", 0, () -> new Springleaf().part(0, 0, 1, 0, 1, true));
        check.due("part, lines 10", 0, () -> new Springleaf().part(0, 0, 1, 0, 10, true));
        check.due("part, line 20, lines 10", 0, () -> new Springleaf().part(0, 0, 1, 20, 10, true));
    }

    @Says(section = "Promise 3", words = "`eases`: whether it is to bend easily")
    static void partThatEasesOrNot(Check check) {
        Springleaf page = new Springleaf();
        page.part(0, 0, 30, 0, 10, true);
        page.part(0, 0, 30, 0, 10, false);
        page.part(0, 0, 1, 0, 1, true);
        // Part 0 is laid 30 wide, and part 1, turned, 10 wide on a sheet of its own.
        check.due("laid(2, 1) beside part 0", 30, () -> page.laid(2, 1));
        check.due("laid(1, 0)", 1, () -> page.laid(1, 0));
    }

    @Says(section = "Promise 3", words = "Returns its number")
    static void partReturnsItsNumber(Check check) {
        Springleaf page = new Springleaf();
        check.due("the first one made", 0, () -> page.part(0, 0, 1, 0, 1, true));
        check.throwing("one refused", Check.ARGUMENT, () -> page.part(0, 61, 1, 0, 1, true));
        check.due("the next one, which takes no number of it", 1, () -> page.part(0, 0, 1, 0, 1, true));
        for (int number = 2; number <= 15; number++) {
            check.due("part " + number, number, () -> page.part(0, 0, 1, 0, 1, true));
        }
    }

    @Says(section = "Promise 3", words = "Throws `IndexOutOfBoundsException` if there is no such fold")
    static void partOnNone(Check check) {
        for (int fold : new int[] {MIN, Springleaf.NONE, 3, 12, MAX}) {
            check.refuses(Check.INDEX, "part on " + fold, Pages::halfGlued, p -> p.part(fold, 0, 1, 0, 1, true));
            check.refuses(Check.INDEX, "part on " + fold + ", all wrong", Pages::halfGlued,
                    p -> p.part(fold, -1, 0, -1, 0, true));
        }
        check.refuses(Check.INDEX, "part on 1 of a page of 16 parts", Pages::fullOfParts,
                p -> p.part(1, 0, 0, 0, 1, true));
        check.refuses(Check.INDEX, "part on 3 of a bound page", Pages::bound, p -> p.part(3, 0, 1, 0, 1, true));
    }

    @Says(section = "Promise 3",
            words = "Throws `IllegalArgumentException` if place, length, line or lines is out of range")
    static void partWithWrongArguments(Check check) {
        check.refuses(Check.ARGUMENT, "all", Pages::halfGlued, p -> p.part(0, MAX, MAX, MAX, MAX, true));
        for (Pages.Maker maker : new Pages.Maker[] {Pages::fullOfParts, Pages::bound, Pages::fullAndBound}) {
            check.refuses(Check.ARGUMENT, "place of a full page", maker, p -> p.part(0, 61, 1, 0, 1, true));
            check.refuses(Check.ARGUMENT, "length of a full page", maker, p -> p.part(0, 0, 31, 0, 1, true));
            check.refuses(Check.ARGUMENT, "line of a full page", maker, p -> p.part(0, 0, 1, 21, 1, true));
            check.refuses(Check.ARGUMENT, "lines of a full page", maker, p -> p.part(0, 0, 1, 0, 11, true));
        }
    }

    @Says(section = "Promise 3", words = "Throws `IllegalStateException` if there are 16")
    static void partWhere16Are(Check check) {
        check.refuses(Check.STATE, "part of 16", Pages::fullOfParts, p -> p.part(0, 0, 1, 20, 1, true));
        check.refuses(Check.STATE, "part of 16 on fold 11", Pages::fullOfBoth, p -> p.part(11, 0, 1, 20, 1, true));
        Springleaf page = Pages.fullAndBound();
        page.unglue();
        check.throwing("part of 16, no more bound", Check.STATE, () -> page.part(0, 0, 1, 20, 1, true));
    }

    @Says(section = "Promise 3", words = "or the page is BOUND")
    static void partOfABoundPage(Check check) {
        check.refuses(Check.STATE, "part of a bound page", Pages::bound, p -> p.part(0, 0, 1, 20, 1, true));
        check.due("part of a page that jams", 2, () -> Pages.jammed().part(0, 0, 1, 20, 1, true));
        check.due("part of a page not glued", 3, () -> Pages.halfGlued().part(0, 0, 1, 20, 1, true));
        Springleaf page = Pages.bound();
        page.unglue();
        check.due("part of a page unglued", 3, () -> page.part(0, 0, 1, 20, 1, true));
    }

    @Says(section = "Promise 6", words = "Tells where a part is")
    static void whereOfEachPart(Check check) {
        Springleaf page = Pages.halfGlued();
        // Their folds are at 90, 45 and 70.
        where(check, page, 0, 90, 9, 10, 10);
        where(check, page, 1, 90, 9, 20, 29);
        where(check, page, 2, 90, 23, 40, 46);
    }

    @Says(section = "Promise 6", words = "`part`: its number")
    static void whereOfTheFirstAndLastPart(Check check) {
        Springleaf page = Pages.fullOfParts();
        where(check, page, 0, 90, 5, 0, 0);
        where(check, page, 15, 90, 5, 15, 15);
    }

    @Says(section = "Promise 6", words = "`open`: 0 to 180")
    static void whereOfAPageShutAndOpen(Check check) {
        Springleaf page = Pages.halfGlued();
        // The fold of part 2 is at 0 and at 160: 30 * 70 / 90 is 23.
        where(check, page, 2, 0, 0, 40, 70);
        where(check, page, 2, 180, 6, 17, 40);
    }

    @Says(section = "Promise 6", words = "`what`: 0 what it rises to; 1 the lesser end of its span; 2 the greater one")
    static void whatTooSmallAndTooLargeForWhere(Check check) {
        for (int what : new int[] {MIN, -1, 3, MAX}) {
            check.refuses(Check.ARGUMENT, "where(0, 0, " + what + ")", Pages::halfGlued, p -> p.where(0, 0, what));
        }
        Springleaf page = Pages.halfGlued();
        check.due("where(0, 45, 0)", 4, () -> page.where(0, 45, 0));
        check.due("where(0, 45, 1)", 10, () -> page.where(0, 45, 1));
        check.due("where(0, 45, 2)", 14, () -> page.where(0, 45, 2));
        check.due("where(0, 135, 1)", 6, () -> page.where(0, 135, 1));
        check.due("where(0, 135, 2)", 10, () -> page.where(0, 135, 2));
    }

    @Says(section = "Promise 6", words = "Returns the number")
    static void whereMayBeBelow0OrBeyond60(Check check) {
        Springleaf page = new Springleaf();
        page.part(0, 0, 30, 0, 1, true);
        page.part(0, 60, 30, 0, 1, true);
        page.part(0, 1, 1, 0, 1, true);
        check.due("where(0, 180, 1)", -30, () -> page.where(0, 180, 1));
        check.due("where(0, 93, 1)", -1, () -> page.where(0, 93, 1));
        check.due("where(0, 92, 1)", 0, () -> page.where(0, 92, 1));
        check.due("where(1, 0, 2)", 90, () -> page.where(1, 0, 2));
        check.due("where(2, 180, 1)", 0, () -> page.where(2, 180, 1));
    }

    @Says(section = "Promise 6", words = "Throws `IndexOutOfBoundsException` if there is no such part")
    static void whereOfNone(Check check) {
        for (int part : new int[] {MIN, Springleaf.NONE, 3, 16, MAX}) {
            check.refuses(Check.INDEX, "where of " + part, Pages::halfGlued, p -> p.where(part, 0, 0));
            check.refuses(Check.INDEX, "where of " + part + ", 181", Pages::halfGlued, p -> p.where(part, 181, 0));
            check.refuses(Check.INDEX, "where of " + part + ", what 3", Pages::halfGlued, p -> p.where(part, 0, 3));
        }
        check.refuses(Check.INDEX, "where of 16 of 16", Pages::fullOfParts, p -> p.where(16, 0, 0));
        check.refuses(Check.INDEX, "where of 0 of a new page", Pages::fresh, p -> p.where(0, 0, 0));
    }

    @Says(section = "Promise 6", words = "Throws `IllegalArgumentException` if open or what is out of range")
    static void whereWithWrongArguments(Check check) {
        for (int open : new int[] {MIN, -1, 181, MAX}) {
            check.refuses(Check.ARGUMENT, "where, open " + open, Pages::halfGlued, p -> p.where(2, open, 2));
            check.refuses(Check.ARGUMENT, "where, open " + open + ", what 3", Pages::halfGlued,
                    p -> p.where(2, open, 3));
        }
        check.refuses(Check.ARGUMENT, "where, what 3", Pages::halfGlued, p -> p.where(2, 180, 3));
        check.refuses(Check.ARGUMENT, "where, what -1", Pages::bound, p -> p.where(0, 0, -1));
    }

    @Says(section = "Promise 7", words = "Tells whether two parts meet")
    static void meetingGoesBothWays(Check check) {
        Springleaf page = Pages.jammed();
        check.due("meet(0, 1, 15)", true, page.meet(0, 1, 15));
        check.due("meet(1, 0, 15)", true, page.meet(1, 0, 15));
        check.due("meet(0, 1, 90)", false, page.meet(0, 1, 90));
        check.due("meet(1, 0, 90)", false, page.meet(1, 0, 90));
    }

    @Says(section = "Promise 7", words = "`part`: its number")
    static void theFirstPartMeetsTheLast(Check check) {
        Springleaf page = new Springleaf();
        for (int part = 0; part <= 15; part++) {
            page.part(0, 30, 9, part == 15 ? 0 : part, 1, true);
        }
        check.due("meet(0, 15, 90)", true, page.meet(0, 15, 90));
        check.due("meet(0, 14, 90)", false, page.meet(0, 14, 90));
    }

    @Says(section = "Promise 7", words = "`other`: another one")
    static void theLastPartMeetsTheFirst(Check check) {
        Springleaf page = new Springleaf();
        for (int part = 0; part <= 15; part++) {
            page.part(0, 30, 9, part == 15 ? 0 : part, 1, true);
        }
        check.due("meet(15, 0, 90)", true, page.meet(15, 0, 90));
        check.due("meet(15, 1, 90)", false, page.meet(15, 1, 90));
    }

    @Says(section = "Promise 7", words = "`open`: 0 to 180")
    static void partsMeetInAPageShutAndOpen(Check check) {
        Springleaf page = new Springleaf();
        page.fold(0, 2, 90);
        page.fold(0, 2, 0);
        page.part(1, 30, 9, 0, 1, true);
        page.part(1, 30, 9, 0, 1, true);
        page.part(2, 30, 9, 0, 1, true);
        page.part(2, 30, 9, 0, 1, true);
        // Fold 1 is at 90 with the page shut and at 180 with it open, fold 2 at 0 and at 90.
        meets(check, page, 0, 1, 0, true);
        meets(check, page, 0, 1, 180, false);
        meets(check, page, 2, 3, 0, false);
        meets(check, page, 2, 3, 180, true);
    }

    @Says(section = "Promise 7", words = "Returns whether they meet; false for one part with itself")
    static void aPartDoesNotMeetItself(Check check) {
        Springleaf page = Pages.jammed();
        for (int open = 0; open <= 180; open += 15) {
            check.due("meet(0, 0, " + open + ")", false, page.meet(0, 0, open));
            check.due("meet(1, 1, " + open + ")", false, page.meet(1, 1, open));
        }
        check.due("meet(15, 15, 90)", false, Pages.fullOfParts().meet(15, 15, 90));
    }

    @Says(section = "Promise 7", words = "Throws `IndexOutOfBoundsException` if there is no such part, of either")
    static void meetOfNone(Check check) {
        for (int part : new int[] {MIN, Springleaf.NONE, 3, 16, MAX}) {
            for (int open : new int[] {90, 181}) {
                String told = part + ", open " + open;
                check.refuses(Check.INDEX, "meet 0 and " + told, Pages::halfGlued,
                        p -> p.meet(0, part, open) ? 1 : 0);
                check.refuses(Check.INDEX, "meet 0 behind " + told, Pages::halfGlued,
                        p -> p.meet(part, 0, open) ? 1 : 0);
                check.refuses(Check.INDEX, "meet itself, " + told, Pages::halfGlued,
                        p -> p.meet(part, part, open) ? 1 : 0);
            }
        }
        check.refuses(Check.INDEX, "meet 15 and 16 of 16", Pages::fullOfParts, p -> p.meet(15, 16, 90) ? 1 : 0);
        check.refuses(Check.INDEX, "meet 0 and 0 of a new page", Pages::fresh, p -> p.meet(0, 0, 90) ? 1 : 0);
    }

    @Says(section = "Promise 7", words = "Throws `IllegalArgumentException` if open is out of range")
    static void meetNotOpen(Check check) {
        for (int open : new int[] {MIN, -1, 181, MAX}) {
            check.refuses(Check.ARGUMENT, "meet(0, 1, " + open + ")", Pages::jammed,
                    p -> p.meet(0, 1, open) ? 1 : 0);
            check.refuses(Check.ARGUMENT, "meet(1, 1, " + open + ")", Pages::jammed,
                    p -> p.meet(1, 1, open) ? 1 : 0);
        }
    }

    @Says(section = "Promise 8",
            words = "Tests the page; returns 1000 times the part that jams, and the angle, together")
    static void testOfTheLastTwoPartsAndOfTheFirst(Check check) {
        Springleaf page = new Springleaf();
        for (int part = 0; part <= 15; part++) {
            page.part(0, 30, 9, Math.min(part, 14), 1, true);
        }
        check.due("test() of parts 14 and 15", 14015, () -> page.test());
        Springleaf shut = new Springleaf();
        shut.fold(0, 1, 90);
        addTwins(shut, 1);
        check.due("test() of part 0 at 0", 0, () -> shut.test());
    }

    @Says(section = "Promise 8", words = "NONE if nothing does")
    static void testOfNothingThatJams(Check check) {
        check.due("test() without parts", Springleaf.NONE, () -> new Springleaf().test());
        Springleaf single = new Springleaf();
        single.part(0, 30, 9, 0, 1, true);
        check.due("test() of one part, which does not meet itself", Springleaf.NONE, () -> single.test());
        check.due("test() of 16 parts apart", Springleaf.NONE, () -> Pages.fullOfParts().test());
        check.due("test() of a bound page", Springleaf.NONE, () -> Pages.bound().test());
    }

    /** Two parts alike, which meet wherever they rise. */
    private static void addTwins(Springleaf page, int fold) {
        page.part(fold, 30, 30, 0, 1, true);
        page.part(fold, 30, 30, 0, 1, true);
    }

    private static void rises(Check check, Springleaf page, int part, int open, int want) {
        check.due("where(" + part + ", " + open + ", 0)", want, () -> page.where(part, open, 0));
    }

    private static void where(Check check, Springleaf page, int part, int open, int rise, int start, int end) {
        String call = "where(" + part + ", " + open + ", ";
        check.due(call + "0)", rise, () -> page.where(part, open, 0));
        check.due(call + "1)", start, () -> page.where(part, open, 1));
        check.due(call + "2)", end, () -> page.where(part, open, 2));
    }

    private static void meets(Check check, Springleaf page, int part, int other, int open, boolean want) {
        String at = " at " + open;
        check.due("meet " + part + " " + other + at, want, page.meet(part, other, open));
        check.due("meet " + other + " " + part + at, want, page.meet(other, part, open));
    }
}
