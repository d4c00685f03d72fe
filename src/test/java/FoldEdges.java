/** The edges of folds: the terms of FOLDS, and promises 1, 2, 4, 5 and 16. */
final class FoldEdges {
    private static final int MIN = Integer.MIN_VALUE;
    private static final int MAX = Integer.MAX_VALUE;
    private static final int[] NOT_OPEN = {MIN, -1, 181, MAX};

    private FoldEdges() {
    }

    @Says(section = "FOLDS", words = "A page is opened from 0 to 180 degrees")
    static void openIs0To180ForEveryMethod(Check check) {
        for (int open : NOT_OPEN) {
            String told = ", open " + open;
            check.refuses(Check.ARGUMENT, "angle" + told, Pages::halfGlued, p -> p.angle(2, open));
            check.refuses(Check.ARGUMENT, "angleAnew" + told, Pages::halfGlued, p -> p.angleAnew(2, open));
            check.refuses(Check.ARGUMENT, "where" + told, Pages::halfGlued, p -> p.where(2, open, 0));
            check.refuses(Check.ARGUMENT, "meet" + told, Pages::halfGlued, p -> p.meet(0, 1, open) ? 1 : 0);
        }
        Springleaf page = Pages.halfGlued();
        check.due("angle(1, 0)", 0, () -> page.angle(1, 0));
        check.due("angle(1, 180)", 90, () -> page.angle(1, 180));
        check.due("angleAnew(1, 0)", 0, () -> page.angleAnew(1, 0));
        check.due("angleAnew(1, 180)", 90, () -> page.angleAnew(1, 180));
        check.due("where(0, 0, 2)", 19, () -> page.where(0, 0, 2));
        check.due("where(0, 180, 1)", 1, () -> page.where(0, 180, 1));
        check.due("meet(0, 1, 0)", false, page.meet(0, 1, 0));
        check.due("meet(0, 1, 180)", false, page.meet(0, 1, 180));
    }

    @Says(section = "FOLDS", words = "Folds are numbered from 0, at most 12")
    static void foldsAre12WithThatOfThePage(Check check) {
        Springleaf page = new Springleaf();
        check.throwing("angle(1, 0) of the first fold alone", Check.INDEX, () -> page.angle(1, 0));
        for (int number = 1; number <= 11; number++) {
            check.due("fold " + number, number, () -> page.fold(0, 4, 0));
        }
        check.throwing("fold 12", Check.STATE, () -> page.fold(0, 4, 0));
        check.due("angle(11, 180)", 180, () -> page.angle(11, 180));
        check.throwing("angle(12, 180)", Check.INDEX, () -> page.angle(12, 180));
    }

    @Says(section = "FOLDS", words = "the fold 0 is that of the page, whose angle is how far it is open")
    static void fold0IsAsFarOpenAsThePage(Check check) {
        for (Springleaf page : new Springleaf[] {Pages.fresh(), Pages.fullOfFolds()}) {
            for (int open : new int[] {0, 1, 89, 90, 91, 179, 180}) {
                check.due("angle(0, " + open + ")", open, () -> page.angle(0, open));
                check.due("angleAnew(0, " + open + ")", open, () -> page.angleAnew(0, open));
            }
        }
    }

    @Says(section = "FOLDS", words = "Each other one hangs on an earlier one")
    static void foldHangsOnAnEarlierOne(Check check) {
        check.refuses(Check.INDEX, "fold 3 on itself", Pages::halfGlued, p -> p.fold(3, 4, 0));
        check.refuses(Check.INDEX, "fold 3 on the next", Pages::halfGlued, p -> p.fold(4, 4, 0));
        check.due("fold 3 on the last one", 3, () -> Pages.halfGlued().fold(2, 4, 0));
        check.due("fold 3 on the first one", 3, () -> Pages.halfGlued().fold(0, 4, 0));
        Springleaf page = new Springleaf();
        page.fold(0, 2, 0);
        page.fold(1, 2, 0);
        page.fold(1, 6, 0);
        page.fold(0, 4, 1);
        angles(check, page, 1, 100, 50);
        angles(check, page, 2, 100, 25);
        angles(check, page, 3, 100, 75);
        angles(check, page, 4, 100, 101);
    }

    @Says(section = "FOLDS", words = "its angle is that one's times its pull, 1 to 8")
    static void leastAndGreatestPull(Check check) {
        Springleaf page = new Springleaf();
        page.fold(0, 1, 0);
        page.fold(0, 8, 0);
        angles(check, page, 1, 100, 25);
        angles(check, page, 1, 180, 45);
        angles(check, page, 2, 1, 2);
        angles(check, page, 2, 90, 180);
    }

    @Says(section = "FOLDS", words = "divided by 4, rounded down, and its lean")
    static void aQuarterIsRoundedDownBeforeItsLean(Check check) {
        Springleaf page = new Springleaf();
        page.fold(0, 1, 0);
        page.fold(0, 3, -2);
        page.fold(1, 8, 0);
        angles(check, page, 1, 3, 0);
        angles(check, page, 1, 4, 1);
        angles(check, page, 1, 7, 1);
        angles(check, page, 1, 8, 2);
        // 12 / 4 and 15 / 4 are 3, which is 1 with the lean; 18 / 4 is 4.
        angles(check, page, 2, 4, 1);
        angles(check, page, 2, 5, 1);
        angles(check, page, 2, 6, 2);
        // What hangs on it takes the angle as it was rounded: 7 / 4 is 1, twice that is 2.
        angles(check, page, 3, 7, 2);
    }

    @Says(section = "FOLDS", words = "and its lean, -90 to 90, together")
    static void leastAndGreatestLean(Check check) {
        Springleaf page = new Springleaf();
        page.fold(0, 4, -90);
        page.fold(0, 4, 90);
        page.fold(0, 4, 0);
        angles(check, page, 1, 180, 90);
        angles(check, page, 2, 0, 90);
        angles(check, page, 3, 77, 77);
    }

    @Says(section = "FOLDS", words = "together, at least 0")
    static void angleIsAtLeast0(Check check) {
        Springleaf page = new Springleaf();
        page.fold(0, 4, -90);
        page.fold(1, 8, 5);
        angles(check, page, 1, 0, 0);
        angles(check, page, 1, 89, 0);
        angles(check, page, 1, 90, 0);
        angles(check, page, 1, 91, 1);
        // What hangs on it takes the 0, not what is below it.
        angles(check, page, 2, 0, 5);
        angles(check, page, 2, 90, 5);
        angles(check, page, 2, 91, 7);
    }

    @Says(section = "FOLDS", words = "at least 0, at most 180")
    static void angleIsAtMost180(Check check) {
        Springleaf page = new Springleaf();
        page.fold(0, 4, 90);
        page.fold(1, 4, -90);
        page.fold(0, 8, 90);
        angles(check, page, 1, 89, 179);
        angles(check, page, 1, 90, 180);
        angles(check, page, 1, 91, 180);
        // What hangs on it takes the 180, not what is above it.
        angles(check, page, 2, 89, 89);
        angles(check, page, 2, 180, 90);
        angles(check, page, 3, 180, 180);
    }

    @Says(section = "Promise 1", words = "A page with the fold 0")
    static void newPageHasTheFold0Alone(Check check) {
        Springleaf page = new Springleaf();
        check.due("angle(0, 180)", 180, () -> page.angle(0, 180));
        check.throwing("angle(1, 180)", Check.INDEX, () -> page.angle(1, 180));
        check.throwing("angleAnew(1, 180)", Check.INDEX, () -> page.angleAnew(1, 180));
        check.throwing("tells(1, 0)", Check.INDEX, () -> page.tells(1, 0));
        check.throwing("fold(1, 4, 0)", Check.INDEX, () -> page.fold(1, 4, 0));
        check.throwing("part(1, ..)", Check.INDEX, () -> page.part(1, 0, 1, 0, 1, true));
    }

    @Says(section = "Promise 1", words = "without parts")
    static void newPageIsWithoutParts(Check check) {
        check.refuses(Check.INDEX, "where(0, 0, 0)", Pages::fresh, p -> p.where(0, 0, 0));
        check.refuses(Check.INDEX, "meet(0, 0, 0)", Pages::fresh, p -> p.meet(0, 0, 0) ? 1 : 0);
        check.refuses(Check.INDEX, "laid(0, 0)", Pages::fresh, p -> p.laid(0, 0));
        check.refuses(Check.INDEX, "glue(0)", Pages::fresh, p -> p.glue(0));
        check.refuses(Check.INDEX, "resize(0, 1)", Pages::fresh, p -> p.resize(0, 1));
        check.refuses(Check.STATE, "unglue()", Pages::fresh, p -> p.unglue());
        Springleaf page = new Springleaf();
        check.due("glued(0)", Springleaf.NONE, () -> page.glued(0));
        check.due("test()", Springleaf.NONE, () -> page.test());
        check.due("sheets()", 0, () -> page.sheets());
        check.due("isBound()", false, page.isBound());
        check.due("the first part", 0, () -> page.part(0, 0, 1, 0, 1, true));
    }

    @Says(section = "Promise 1", words = "`Springleaf()`")
    static void newPagesShareNothing(Check check) {
        Springleaf other = Pages.bound();
        Springleaf page = new Springleaf();
        check.compare("a page beside a bound one", Pages.state(Pages.fresh()), Pages.state(page));
        page.part(0, 0, 1, 0, 1, true);
        page.glue(0);
        check.compare("a bound page beside it", Pages.state(Pages.bound()), Pages.state(other));
    }

    @Says(section = "Promise 2", words = "Makes a fold")
    static void foldMakesOne(Check check) {
        Springleaf page = new Springleaf();
        page.fold(0, 3, -7);
        angles(check, page, 1, 100, 68);
        check.throwing("angle(2, 0)", Check.INDEX, () -> page.angle(2, 0));
    }

    @Says(section = "Promise 2", words = "`on`: the fold on which it hangs")
    static void foldHangsOnWhatItIsTold(Check check) {
        Springleaf page = Pages.fullOfFolds();
        for (int fold = 1; fold <= 11; fold++) {
            int hung = fold;
            // Each tells "f", its number, "*4+0 on f", and that of the one before it.
            int place = ("f" + fold + "*4+0 on f").length();
            check.due("the fold of " + fold, Integer.toString(fold - 1).charAt(0), () -> page.tells(hung, place));
        }
    }

    @Says(section = "Promise 2", words = "`pull`: 1 to 8")
    static void pullTooSmallAndTooLarge(Check check) {
        for (int pull : new int[] {MIN, -1, 0, 9, MAX}) {
            check.refuses(Check.ARGUMENT, "fold, pull " + pull, Pages::halfGlued, p -> p.fold(0, pull, 0));
        }
        check.due("fold, pull 1", 3, () -> Pages.halfGlued().fold(0, 1, 0));
        check.due("fold, pull 8", 3, () -> Pages.halfGlued().fold(0, 8, 0));
    }

    @Says(section = "Promise 2", words = "`lean`: -90 to 90")
    static void leanTooSmallAndTooLarge(Check check) {
        for (int lean : new int[] {MIN, -91, 91, MAX}) {
            check.refuses(Check.ARGUMENT, "fold, lean " + lean, Pages::halfGlued, p -> p.fold(0, 4, lean));
        }
        check.due("fold, lean -90", 3, () -> Pages.halfGlued().fold(0, 4, -90));
        check.due("fold, lean 90", 3, () -> Pages.halfGlued().fold(0, 4, 90));
    }

    @Says(section = "Promise 2", words = "Returns its number")
    static void foldReturnsItsNumber(Check check) {
        Springleaf page = new Springleaf();
        check.due("the first one made", 1, () -> page.fold(0, 4, 0));
        check.throwing("one refused", Check.ARGUMENT, () -> page.fold(0, 9, 0));
        check.due("the next one, which takes no number of it", 2, () -> page.fold(0, 4, 0));
        for (int number = 3; number <= 11; number++) {
            check.due("fold " + number, number, () -> page.fold(1, 4, 0));
        }
    }

    @Says(section = "Promise 2", words = "Throws `IndexOutOfBoundsException` if there is no such fold")
    static void foldOnNone(Check check) {
        for (int on : new int[] {MIN, Springleaf.NONE, 3, 12, MAX}) {
            check.refuses(Check.INDEX, "fold on " + on, Pages::halfGlued, p -> p.fold(on, 4, 0));
            check.refuses(Check.INDEX, "fold on " + on + ", pull 0", Pages::halfGlued, p -> p.fold(on, 0, 0));
            check.refuses(Check.INDEX, "fold on " + on + ", lean 91", Pages::halfGlued, p -> p.fold(on, 4, 91));
        }
        check.refuses(Check.INDEX, "fold on 3 of a bound page", Pages::bound, p -> p.fold(3, 4, 0));
        check.refuses(Check.INDEX, "fold on 12 of 12", Pages::fullOfFolds, p -> p.fold(12, 9, 91));
        check.refuses(Check.INDEX, "fold on -1 of 12", Pages::fullAndBound, p -> p.fold(-1, 4, 0));
    }

    @Says(section = "Promise 2", words = "Throws `IllegalArgumentException` if pull or lean is out of range")
    static void foldWithWrongArguments(Check check) {
        check.refuses(Check.ARGUMENT, "pull alone", Pages::halfGlued, p -> p.fold(2, 9, 90));
        check.refuses(Check.ARGUMENT, "lean alone", Pages::halfGlued, p -> p.fold(2, 8, 91));
        check.refuses(Check.ARGUMENT, "both", Pages::halfGlued, p -> p.fold(2, MIN, MIN));
        check.refuses(Check.ARGUMENT, "pull of 12 folds", Pages::fullOfFolds, p -> p.fold(0, 0, 0));
        check.refuses(Check.ARGUMENT, "lean of 12 folds", Pages::fullOfFolds, p -> p.fold(0, 1, -91));
        check.refuses(Check.ARGUMENT, "pull of a bound page", Pages::bound, p -> p.fold(0, 0, 0));
        check.refuses(Check.ARGUMENT, "lean of a bound page", Pages::bound, p -> p.fold(0, 1, -91));
    }

    @Says(section = "Promise 2", words = "Throws `IllegalStateException` if there are 12")
    static void foldWhere12Are(Check check) {
        check.refuses(Check.STATE, "fold on 0 of 12", Pages::fullOfFolds, p -> p.fold(0, 4, 0));
        check.refuses(Check.STATE, "fold on 11 of 12", Pages::fullOfFolds, p -> p.fold(11, 8, 90));
        Springleaf page = Pages.fullAndBound();
        page.unglue();
        check.throwing("fold of 12, no more bound", Check.STATE, () -> page.fold(0, 4, 0));
    }

    @Says(section = "Promise 2", words = "or the page is BOUND")
    static void foldOfABoundPage(Check check) {
        check.refuses(Check.STATE, "fold of a bound page", Pages::bound, p -> p.fold(0, 4, 0));
        check.due("fold of a page that jams", 1, () -> Pages.jammed().fold(0, 4, 0));
        check.due("fold of a page not glued", 1, () -> Pages.fullOfParts().fold(0, 4, 0));
        Springleaf page = Pages.bound();
        page.unglue();
        check.due("fold of a page unglued", 3, () -> page.fold(0, 4, 0));
    }

    @Says(section = "Promise 4", words = "Returns the angle of a fold")
    static void angleOfEachFold(Check check) {
        Springleaf page = Pages.halfGlued();
        check.due("angle(0, 100)", 100, () -> page.angle(0, 100));
        check.due("angle(1, 100)", 50, () -> page.angle(1, 100));
        check.due("angle(2, 100)", 80, () -> page.angle(2, 100));
    }

    @Says(section = "Promise 4", words = "`fold`: its number")
    static void angleOfTheFirstAndLastFold(Check check) {
        Springleaf page = Pages.fullOfFolds();
        check.due("angle(0, 91)", 91, () -> page.angle(0, 91));
        check.due("angle(11, 91)", 91, () -> page.angle(11, 91));
    }

    @Says(section = "Promise 4", words = "`open`: 0 to 180: how far the page is open")
    static void angleOfAPageShutAndOpen(Check check) {
        Springleaf page = Pages.halfGlued();
        check.due("angle(2, 0)", 0, () -> page.angle(2, 0));
        check.due("angle(2, 180)", 160, () -> page.angle(2, 180));
    }

    @Says(section = "Promise 4", words = "Returns the angle")
    static void askingForAnAngleOpensNothing(Check check) {
        Springleaf page = Pages.halfGlued();
        check.due("angle(2, 180)", 160, () -> page.angle(2, 180));
        check.due("angle(2, 60)", 40, () -> page.angle(2, 60));
        check.due("angle(2, 180) again", 160, () -> page.angle(2, 180));
        check.compare("the page", Pages.state(Pages.halfGlued()), Pages.state(page));
    }

    @Says(section = "Promise 4", words = "Throws `IndexOutOfBoundsException` if there is no such fold")
    static void angleOfNone(Check check) {
        for (int fold : new int[] {MIN, Springleaf.NONE, 3, 12, MAX}) {
            check.refuses(Check.INDEX, "angle of " + fold, Pages::halfGlued, p -> p.angle(fold, 0));
            check.refuses(Check.INDEX, "angle of " + fold + ", 181", Pages::halfGlued, p -> p.angle(fold, 181));
        }
        check.refuses(Check.INDEX, "angle of 12 of 12", Pages::fullOfFolds, p -> p.angle(12, -1));
        check.refuses(Check.INDEX, "angle of 1 of a new page", Pages::fresh, p -> p.angle(1, 0));
    }

    @Says(section = "Promise 4", words = "Throws `IllegalArgumentException` if open is out of range")
    static void angleNotOpen(Check check) {
        for (int open : NOT_OPEN) {
            check.refuses(Check.ARGUMENT, "angle(0, " + open + ")", Pages::fresh, p -> p.angle(0, open));
            check.refuses(Check.ARGUMENT, "angle(11, " + open + ")", Pages::fullOfFolds, p -> p.angle(11, open));
        }
    }

    @Says(section = "Promise 5", words = "Returns the same, found by opening the page degree by degree")
    static void angleAnewIsTheSameAtEveryDegree(Check check) {
        for (int fold = 0; fold <= 4; fold++) {
            Springleaf page = steepAndHeldFolds();
            for (int open = 0; open <= 180; open++) {
                int f = fold;
                int o = open;
                check.due("angleAnew(" + f + ", " + o + ")", page.angle(f, o), () -> page.angleAnew(f, o));
            }
        }
    }

    @Says(section = "Promise 5", words = "each fold going on by as much as its angle grew or fell")
    static void angleAnewGoesOnFromHeldAngles(Check check) {
        Springleaf page = steepAndHeldFolds();
        // Fold 1 leaves 0 behind 45 degrees, and fold 2, which takes twice that, reaches 180 at 90.
        check.due("angleAnew(1, 45)", 0, () -> page.angleAnew(1, 45));
        check.due("angleAnew(1, 46)", 2, () -> page.angleAnew(1, 46));
        check.due("angleAnew(2, 89)", 176, () -> page.angleAnew(2, 89));
        check.due("angleAnew(2, 90)", 180, () -> page.angleAnew(2, 90));
        check.due("angleAnew(2, 180)", 180, () -> page.angleAnew(2, 180));
        // Fold 3 takes a quarter of it, fold 4 three quarters, with what is left of each degree.
        check.due("angleAnew(3, 45)", 7, () -> page.angleAnew(3, 45));
        check.due("angleAnew(3, 46)", 8, () -> page.angleAnew(3, 46));
        check.due("angleAnew(3, 180)", 52, () -> page.angleAnew(3, 180));
        check.due("angleAnew(4, 180)", 44, () -> page.angleAnew(4, 180));
    }

    /** Folds that are held at 0 and at 180 for a time, and some behind them that take fractions of their angles. */
    private static Springleaf steepAndHeldFolds() {
        Springleaf page = new Springleaf();
        page.fold(0, 8, -90);
        page.fold(1, 8, 0);
        page.fold(2, 1, 7);
        page.fold(3, 3, 5);
        return page;
    }

    @Says(section = "Promise 5", words = "`fold`: its number")
    static void angleAnewOfTheFirstAndLastFold(Check check) {
        Springleaf page = Pages.fullOfFolds();
        check.due("angleAnew(0, 91)", 91, () -> page.angleAnew(0, 91));
        check.due("angleAnew(11, 91)", 91, () -> page.angleAnew(11, 91));
    }

    @Says(section = "Promise 5", words = "`open`: 0 to 180")
    static void angleAnewOfAPageShutAndOpen(Check check) {
        Springleaf page = Pages.halfGlued();
        check.due("angleAnew(2, 0)", 0, () -> page.angleAnew(2, 0));
        check.due("angleAnew(2, 1)", 0, () -> page.angleAnew(2, 1));
        check.due("angleAnew(2, 180)", 160, () -> page.angleAnew(2, 180));
    }

    @Says(section = "Promise 5", words = "Returns the angle")
    static void askingAnewOpensNothing(Check check) {
        Springleaf page = Pages.halfGlued();
        check.due("angleAnew(2, 180)", 160, () -> page.angleAnew(2, 180));
        check.due("angleAnew(2, 60)", 40, () -> page.angleAnew(2, 60));
        check.due("angleAnew(2, 180) again", 160, () -> page.angleAnew(2, 180));
        check.compare("the page", Pages.state(Pages.halfGlued()), Pages.state(page));
    }

    @Says(section = "Promise 5", words = "Throws `IndexOutOfBoundsException` if there is no such fold")
    static void angleAnewOfNone(Check check) {
        for (int fold : new int[] {MIN, Springleaf.NONE, 3, 12, MAX}) {
            check.refuses(Check.INDEX, "angleAnew of " + fold, Pages::halfGlued, p -> p.angleAnew(fold, 0));
            check.refuses(Check.INDEX, "angleAnew of " + fold + ", 181", Pages::halfGlued,
                    p -> p.angleAnew(fold, 181));
        }
        check.refuses(Check.INDEX, "angleAnew of 12 of 12", Pages::fullOfFolds, p -> p.angleAnew(12, -1));
        check.refuses(Check.INDEX, "angleAnew of 1 of a new page", Pages::fresh, p -> p.angleAnew(1, 0));
    }

    @Says(section = "Promise 5", words = "Throws `IllegalArgumentException` if open is out of range")
    static void angleAnewNotOpen(Check check) {
        for (int open : NOT_OPEN) {
            check.refuses(Check.ARGUMENT, "angleAnew(0, " + open + ")", Pages::fresh, p -> p.angleAnew(0, open));
            check.refuses(Check.ARGUMENT, "angleAnew(11, " + open + ")", Pages::fullOfFolds,
                    p -> p.angleAnew(11, open));
        }
    }

    @Says(section = "Promise 16", words = "\"f\" and its number")
    static void theFold0TellsNoMore(Check check) {
        text(check, new Springleaf(), 0, "f0");
        text(check, Pages.fullOfFolds(), 0, "f0");
    }

    @Says(section = "Promise 16", words = "then, if it hangs on another one, \"*\" and its pull")
    static void foldsTellTheirPull(Check check) {
        Springleaf page = new Springleaf();
        page.fold(0, 1, 3);
        page.fold(0, 8, 3);
        text(check, page, 1, "f1*1+3 on f0");
        text(check, page, 2, "f2*8+3 on f0");
    }

    @Says(section = "Promise 16", words = "\"+\", or \"-\" if its lean is below 0, and its lean without a sign")
    static void foldsTellTheirLean(Check check) {
        Springleaf page = new Springleaf();
        for (int lean : new int[] {-90, -10, -9, -1, 0, 1, 9, 10, 90}) {
            page.fold(0, 4, lean);
        }
        text(check, page, 1, "f1*4-90 on f0");
        text(check, page, 2, "f2*4-10 on f0");
        text(check, page, 3, "f3*4-9 on f0");
        text(check, page, 4, "f4*4-1 on f0");
        text(check, page, 5, "f5*4+0 on f0");
        text(check, page, 6, "f6*4+1 on f0");
        text(check, page, 7, "f7*4+9 on f0");
        text(check, page, 8, "f8*4+10 on f0");
        text(check, page, 9, "f9*4+90 on f0");
    }

    @Says(section = "Promise 16", words = "\" on \" and what that one tells")
    static void foldsTellWhatTheyHangOn(Check check) {
        Springleaf page = new Springleaf();
        StringBuilder due = new StringBuilder("f0");
        for (int number = 1; number <= 11; number++) {
            page.fold(number - 1, 8, -90);
            due.insert(0, "f" + number + "*8-90 on ");
        }
        text(check, page, 11, due.toString());
        Springleaf side = new Springleaf();
        side.fold(0, 2, 0);
        side.fold(0, 3, 0);
        side.fold(1, 4, 0);
        text(check, side, 3, "f3*4+0 on f1*2+0 on f0");
    }

    @Says(section = "Promise 16", words = "`fold`: its number")
    static void foldsTellNumbersOfTwoDigits(Check check) {
        Springleaf page = new Springleaf();
        for (int number = 1; number <= 11; number++) {
            page.fold(number == 11 ? 10 : 0, 4, 0);
        }
        text(check, page, 9, "f9*4+0 on f0");
        text(check, page, 10, "f10*4+0 on f0");
        text(check, page, 11, "f11*4+0 on f10*4+0 on f0");
    }

    @Says(section = "Promise 16", words = "`place`: from 0")
    static void theFirstSignIsAt0(Check check) {
        check.due("tells(0, 0)", 'f', () -> new Springleaf().tells(0, 0));
        check.due("tells(2, 0)", 'f', () -> Pages.halfGlued().tells(2, 0));
        check.due("tells(2, 1)", '2', () -> Pages.halfGlued().tells(2, 1));
    }

    @Says(section = "Promise 16", words = "Returns the sign; a 0 behind the last one")
    static void a0BehindTheLastSign(Check check) {
        Springleaf page = Pages.halfGlued();
        check.due("tells(0, 1)", '0', () -> page.tells(0, 1));
        check.due("tells(0, 2)", 0, () -> page.tells(0, 2));
        check.due("tells(0, 3)", 0, () -> page.tells(0, 3));
        check.due("tells(0, MAX)", 0, () -> page.tells(0, MAX));
        check.due("tells(1, 11)", '0', () -> page.tells(1, 11));
        check.due("tells(1, 12)", 0, () -> page.tells(1, 12));
        check.due("tells(1, 512)", 0, () -> page.tells(1, 512));
        check.due("tells(1, MAX)", 0, () -> page.tells(1, MAX));
    }

    @Says(section = "Promise 16", words = "Throws `IndexOutOfBoundsException` if there is no such fold")
    static void noSuchFoldTells(Check check) {
        for (int fold : new int[] {MIN, Springleaf.NONE, 3, 12, MAX}) {
            check.refuses(Check.INDEX, "tells of " + fold, Pages::halfGlued, p -> p.tells(fold, 0));
            check.refuses(Check.INDEX, "tells of " + fold + ", place -1", Pages::halfGlued, p -> p.tells(fold, -1));
        }
        check.refuses(Check.INDEX, "tells of 12 of 12", Pages::fullOfFolds, p -> p.tells(12, 0));
    }

    @Says(section = "Promise 16", words = "or place is below 0")
    static void noPlaceBelow0(Check check) {
        check.refuses(Check.INDEX, "tells(0, -1)", Pages::fresh, p -> p.tells(0, -1));
        check.refuses(Check.INDEX, "tells(0, MIN)", Pages::fresh, p -> p.tells(0, MIN));
        check.refuses(Check.INDEX, "tells(11, -1)", Pages::fullOfFolds, p -> p.tells(11, -1));
    }

    private static void angles(Check check, Springleaf page, int fold, int open, int want) {
        check.due("angle(" + fold + ", " + open + ")", want, () -> page.angle(fold, open));
        check.due("angleAnew(" + fold + ", " + open + ")", want, () -> page.angleAnew(fold, open));
    }

    private static void text(Check check, Springleaf page, int fold, String due) {
        StringBuilder told = new StringBuilder();
        for (int place = 0; place < due.length(); place++) {
            told.append(page.tells(fold, place));
        }
        check.compare("what fold " + fold + " tells", due, told.toString());
        check.due("behind what fold " + fold + " tells", 0, () -> page.tells(fold, due.length()));
    }
}
