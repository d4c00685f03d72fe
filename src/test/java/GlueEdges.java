/** The edges of gluing: the terms of GLUING, and promises 11 to 15. */
final class GlueEdges {
    private static final int MIN = Integer.MIN_VALUE;
    private static final int MAX = Integer.MAX_VALUE;

    private GlueEdges() {
    }

    @Says(section = "What it is", words = "An object is used for at most 512 calls after it has been made")
    static void the512thCallHolds(Check check) {
        Springleaf page = Pages.fullAndBound();
        // 43 calls made the page; each of these turns makes two, and the last one of all is the 512th.
        for (int call = 43; call + 2 <= 511; call += 2) {
            check.due("unglue() as call " + (call + 1), 15, () -> page.unglue());
            check.due("glue(15) as call " + (call + 2), 16, () -> page.glue(15));
        }
        check.due("isBound() as call 512", true, page.isBound());
    }

    @Says(section = "GLUING", words = "if no part that is glued covers where it begins")
    static void onlyGluedPartsCover(Check check) {
        Springleaf page = coverAnd(30, 5, 1);
        check.due("glue(1), part 0 not glued", 1, () -> page.glue(1));
        page.unglue();
        page.glue(0);
        check.throwing("glue(1), part 0 glued", Check.STATE, () -> page.glue(1));
        page.unglue();
        check.due("glue(1), part 0 unglued", 1, () -> page.glue(1));
        // Part 1 begins where part 0 does, so neither lets the other be glued.
        check.throwing("glue(0), part 1 glued", Check.STATE, () -> page.glue(0));
    }

    @Says(section = "GLUING", words = "covers where it begins")
    static void onlyWhereAPartBeginsIsCovered(Check check) {
        Springleaf page = new Springleaf();
        page.part(0, 30, 10, 0, 1, true);
        page.part(0, 35, 10, 0, 1, true);
        page.part(0, 50, 30, 0, 1, true);
        // Open, part 0 lies from 20 to 30, part 1 from 25 to 35, part 2 from 20 to 50.
        page.glue(0);
        check.due("glue(1), which lies over part 0 but begins behind it", 2, () -> page.glue(1));
        check.due("glue(2), which covers where both begin", 3, () -> page.glue(2));
        page.resize(0, 10);
        page.glue(2);
        check.throwing("glue(0) below part 2", Check.STATE, () -> page.glue(0));
        check.throwing("glue(1) below part 2", Check.STATE, () -> page.glue(1));
    }

    @Says(section = "GLUING", words = "no part that is glued covers")
    static void eachGluedPartIsLookedAt(Check check) {
        for (int line = 0; line <= 15; line++) {
            Springleaf page = new Springleaf();
            for (int part = 0; part <= 14; part++) {
                page.part(0, 30, 5, part, 1, true);
            }
            page.part(0, 30, 5, line, 1, true);
            for (int part = 0; part <= 14; part++) {
                page.glue(part);
            }
            // Only line 15 is free.
            check.compare("glue on line " + line, line == 15 ? "16" : Check.STATE, Check.outcome(() -> page.glue(15)));
        }
    }

    @Says(section = "GLUING", words = "one whose band has a line in common with it")
    static void aCoverOfOtherLinesIsNone(Check check) {
        // Part 0 has the lines 5 to 9, and covers the places 20 to 30.
        glues(check, "on its first line", coverAnd(25, 5, 1), false);
        glues(check, "on its last line", coverAnd(25, 9, 1), false);
        glues(check, "on the line before", coverAnd(25, 4, 1), true);
        glues(check, "on the line behind", coverAnd(25, 10, 1), true);
        glues(check, "on lines up to its first one", coverAnd(25, 0, 6), false);
        glues(check, "on lines up to the one before", coverAnd(25, 0, 5), true);
        glues(check, "on lines from its last one on", coverAnd(25, 9, 10), false);
        glues(check, "on lines round all of it", coverAnd(25, 4, 7), false);
    }

    @Says(section = "GLUING", words = "and whose span")
    static void aCoverHasBothItsEnds(Check check) {
        glues(check, "before the lesser end", coverAnd(19, 5, 1), true);
        glues(check, "at the lesser end", coverAnd(20, 5, 1), false);
        glues(check, "at the greater end", coverAnd(30, 5, 1), false);
        glues(check, "behind the greater end", coverAnd(31, 5, 1), true);
    }

    @Says(section = "GLUING", words = "when the page is open by 180 degrees, has its place")
    static void aCoverIsThatOfThePageWideOpen(Check check) {
        // With the page at 180 the fold of part 0 is at 90: its span is its place alone.
        glues(check, "behind one upright", coverOnFoldAnd(2, 0, 31), true);
        glues(check, "at one upright", coverOnFoldAnd(2, 0, 30), false);
        glues(check, "before one upright", coverOnFoldAnd(2, 0, 29), true);
        // At 0, it lies forward, from 30 to 40.
        glues(check, "before one that lies forward", coverOnFoldAnd(2, -90, 29), true);
        glues(check, "at its place", coverOnFoldAnd(2, -90, 30), false);
        glues(check, "at its end", coverOnFoldAnd(2, -90, 40), false);
        glues(check, "behind its end", coverOnFoldAnd(2, -90, 41), true);
        // At 45, it reaches to 35.
        glues(check, "at the end of one half risen", coverOnFoldAnd(1, 0, 35), false);
        glues(check, "behind the end of one half risen", coverOnFoldAnd(1, 0, 36), true);
    }

    @Says(section = "GLUING", words = "if its fold is the fold 0")
    static void theFold0HoldsByItself(Check check) {
        Springleaf page = Pages.fullOfBoth();
        check.due("glue(15), nothing glued", 1, () -> page.glue(15));
        check.due("glue(0)", 2, () -> page.glue(0));
    }

    @Says(section = "GLUING", words = "or some part is glued on the fold on which its fold hangs")
    static void anotherFoldIsHeldByTheOneOnWhichItHangs(Check check) {
        Springleaf page = new Springleaf();
        page.fold(0, 4, 0);
        page.fold(1, 4, 0);
        page.fold(1, 4, 0);
        for (int part = 0; part <= 5; part++) {
            page.part(new int[] {0, 1, 2, 3, 1, 2}[part], 10, 1, part, 1, true);
        }
        check.throwing("glue on fold 1, nothing glued", Check.STATE, () -> page.glue(1));
        page.glue(0);
        check.throwing("glue on fold 2, fold 0 glued", Check.STATE, () -> page.glue(2));
        check.due("glue on fold 1, fold 0 glued", 2, () -> page.glue(1));
        check.due("glue on fold 3, fold 1 glued", 3, () -> page.glue(3));
        check.due("glue on fold 2, fold 1 glued", 4, () -> page.glue(2));
        page.unglue();
        page.unglue();
        page.unglue();
        check.throwing("glue on fold 2, fold 1 unglued", Check.STATE, () -> page.glue(2));
        // The other part on fold 1 does as well.
        check.due("glue the other one on fold 1", 2, () -> page.glue(4));
        check.due("glue on fold 2", 3, () -> page.glue(5));
    }

    @Says(section = "GLUING", words = "and if its fold is the fold 0, or some part is glued on the fold")
    static void aPartOfAFoldBesideItIsNoHold(Check check) {
        Springleaf page = new Springleaf();
        page.fold(0, 4, 0);
        page.fold(0, 4, 0);
        page.fold(1, 4, 0);
        page.part(0, 10, 1, 0, 1, true);
        page.part(2, 10, 1, 1, 1, true);
        page.part(3, 10, 1, 2, 1, true);
        page.part(1, 0, 30, 3, 1, true);
        page.glue(0);
        page.glue(1);
        // Fold 3 hangs on 1, where nothing is glued, though a part stands there.
        check.throwing("glue on fold 3", Check.STATE, () -> page.glue(2));
        page.glue(3);
        check.due("glue on fold 3", 4, () -> page.glue(2));
    }

    @Says(section = "GLUING", words = "Parts are unglued by hand, the latest one first")
    static void unglueAll16Backwards(Check check) {
        Springleaf page = Pages.fullAndBound();
        for (int part = 15; part >= 0; part--) {
            int due = part;
            check.due("unglue()", due, () -> page.unglue());
            check.due("glued(" + due + ")", Springleaf.NONE, () -> page.glued(due));
        }
        check.throwing("unglue() of none", Check.STATE, () -> page.unglue());
    }

    @Says(section = "GLUING", words = "A page is BOUND, if all of its parts are glued")
    static void onePartNotGluedLeavesAPageFree(Check check) {
        Springleaf page = Pages.fullOfParts();
        for (int part = 0; part <= 15; part++) {
            int next = part;
            check.due("isBound() of " + part + " glued", false, page.isBound());
            check.due("glue(" + part + ")", part + 1, () -> page.glue(next));
        }
        check.due("isBound() of 16 glued", true, page.isBound());
    }

    @Says(section = "GLUING", words = "and nothing jams")
    static void aPageThatJamsIsNotBound(Check check) {
        Springleaf page = Pages.jammed();
        check.due("isBound() of a page that jams", false, page.isBound());
        check.due("resize(1, 30) of it", 1, () -> page.resize(1, 30));
        check.due("glue(1) anew", 2, () -> page.glue(1));
        check.due("isBound() of what jams no more", true, page.isBound());
        // Parts that meet only between the tester's angles do not jam.
        Springleaf between = new Springleaf();
        between.fold(0, 8, -30);
        between.fold(1, 8, 0);
        between.fold(2, 8, 0);
        between.fold(3, 8, 0);
        for (int fold = 0; fold <= 4; fold++) {
            between.part(fold, 30, 30, fold, 1, true);
        }
        between.part(4, 31, 30, 4, 1, true);
        for (int part = 0; part <= 5; part++) {
            between.glue(part);
        }
        check.due("meet(4, 5, 22)", true, between.meet(4, 5, 22));
        check.due("isBound() of parts that meet at 22", true, between.isBound());
    }

    @Says(section = "GLUING", words = "It cannot be changed then")
    static void aBoundPageIsNotChanged(Check check) {
        for (Pages.Maker maker : new Pages.Maker[] {Pages::bound, Pages::fullAndBound}) {
            check.refuses(Check.STATE, "fold of a bound page", maker, p -> p.fold(0, 4, 0));
            check.refuses(Check.STATE, "part of a bound page", maker, p -> p.part(0, 0, 1, 20, 1, true));
            check.refuses(Check.STATE, "glue of a bound page", maker, p -> p.glue(0));
        }
        check.refuses(Check.INDEX, "glue(3) of a bound page", Pages::bound, p -> p.glue(3));
    }

    @Says(section = "GLUING", words = "until something is unglued")
    static void aPageUngluedIsChanged(Check check) {
        Springleaf unglued = Pages.bound();
        unglued.unglue();
        check.due("fold, unglued by hand", 3, () -> unglued.fold(0, 4, 0));
        check.due("part, unglued by hand", 3, () -> unglued.part(0, 0, 1, 20, 1, true));
        Springleaf resized = Pages.bound();
        resized.resize(2, 30);
        check.due("fold, unglued by resize", 3, () -> resized.fold(0, 4, 0));
        check.due("part, unglued by resize", 3, () -> resized.part(0, 0, 1, 20, 1, true));
        Springleaf bound = Pages.bound();
        bound.unglue();
        bound.glue(2);
        check.throwing("fold, glued again", Check.STATE, () -> bound.fold(0, 4, 0));
        check.throwing("part, glued again", Check.STATE, () -> bound.part(0, 0, 1, 20, 1, true));
    }

    @Says(section = "GLUING", words = "A part whose length is told anew, also the same, is unglued")
    static void theSameLengthUngluesToo(Check check) {
        Springleaf page = Pages.halfGlued();
        check.due("resize(0, 9), as long as it is", 1, () -> page.resize(0, 9));
        check.due("glued(0)", Springleaf.NONE, () -> page.glued(0));
        check.due("resize(0, 9) again", 0, () -> page.resize(0, 9));
    }

    @Says(section = "GLUING", words = "with all that was glued behind it")
    static void whatIsGluedBehindIsUngluedAndNothingBefore(Check check) {
        for (int step = 0; step <= 15; step++) {
            Springleaf page = Pages.fullOfParts();
            // They are glued from the last one to the first.
            for (int part = 15; part >= 0; part--) {
                page.glue(part);
            }
            int part = 15 - step;
            int kept = step;
            check.due("resize of the part of step " + step, 16 - step, () -> page.resize(part, 6));
            check.due("glued(" + step + ")", Springleaf.NONE, () -> page.glued(kept));
            if (step > 0) {
                check.due("glued(" + (step - 1) + ")", part + 1, () -> page.glued(kept - 1));
                check.due("unglue()", part + 1, () -> page.unglue());
            }
        }
    }

    @Says(section = "GLUING", words = "A method that throws an exception changes nothing")
    static void noRefusedCallChangesAnything(Check check) {
        Pages.Maker[] makers = {Pages::fresh, Pages::halfGlued, Pages::bound, Pages::jammed, Pages::fullOfFolds,
            Pages::fullOfParts, Pages::fullAndBound};
        for (Pages.Maker maker : makers) {
            check.refuses(Check.INDEX, "fold", maker, p -> p.fold(-1, 4, 0));
            check.refuses(Check.ARGUMENT, "fold", maker, p -> p.fold(0, 4, 91));
            check.refuses(Check.INDEX, "part", maker, p -> p.part(-1, 0, 1, 0, 1, true));
            check.refuses(Check.ARGUMENT, "part", maker, p -> p.part(0, 0, 1, 0, 11, true));
            check.refuses(Check.INDEX, "angle", maker, p -> p.angle(12, 90));
            check.refuses(Check.ARGUMENT, "angle", maker, p -> p.angle(0, 181));
            check.refuses(Check.INDEX, "angleAnew", maker, p -> p.angleAnew(12, 90));
            check.refuses(Check.ARGUMENT, "angleAnew", maker, p -> p.angleAnew(0, 181));
            check.refuses(Check.INDEX, "where", maker, p -> p.where(16, 0, 0));
            check.refuses(Check.INDEX, "meet", maker, p -> p.meet(16, 0, 90) ? 1 : 0);
            check.refuses(Check.INDEX, "laid", maker, p -> p.laid(16, 0));
            check.refuses(Check.INDEX, "glue", maker, p -> p.glue(16));
            check.refuses(Check.INDEX, "glued", maker, p -> p.glued(-1));
            check.refuses(Check.INDEX, "resize", maker, p -> p.resize(16, 5));
            check.refuses(Check.INDEX, "tells, fold", maker, p -> p.tells(12, 0));
            check.refuses(Check.INDEX, "tells, place", maker, p -> p.tells(0, -1));
        }
        check.refuses(Check.STATE, "fold", Pages::fullOfFolds, p -> p.fold(0, 4, 0));
        check.refuses(Check.STATE, "part", Pages::fullOfParts, p -> p.part(0, 0, 1, 0, 1, true));
        check.refuses(Check.STATE, "glue", Pages::halfGlued, p -> p.glue(0));
        check.refuses(Check.STATE, "glue, no hold", Pages::halfGlued, p -> p.glue(2));
        check.refuses(Check.STATE, "unglue", Pages::fullOfParts, p -> p.unglue());
        check.refuses(Check.ARGUMENT, "resize", Pages::bound, p -> p.resize(0, 31));
        check.refuses(Check.ARGUMENT, "where", Pages::bound, p -> p.where(0, 0, 3));
        check.refuses(Check.ARGUMENT, "laid", Pages::bound, p -> p.laid(0, 3));
        check.refuses(Check.ARGUMENT, "meet", Pages::bound, p -> p.meet(0, 1, 181) ? 1 : 0);
    }

    @Says(section = "GLUING", words = "If several exceptions apply, the one that is documented first is thrown")
    static void theExceptionDocumentedFirstIsThrown(Check check) {
        // What is refused for its index and more, then what is refused for its argument and for its state.
        Pages.Maker full = Pages::fullAndBound;
        check.refuses(Check.INDEX, "fold, all wrong", full, p -> p.fold(12, 9, 91));
        check.refuses(Check.INDEX, "part, all wrong", full, p -> p.part(12, 61, 31, 21, 11, true));
        check.refuses(Check.INDEX, "angle, all wrong", full, p -> p.angle(12, 181));
        check.refuses(Check.INDEX, "angleAnew, all wrong", full, p -> p.angleAnew(12, 181));
        check.refuses(Check.INDEX, "where, all wrong", full, p -> p.where(16, 181, 3));
        check.refuses(Check.INDEX, "meet, all wrong", full, p -> p.meet(16, 16, 181) ? 1 : 0);
        check.refuses(Check.INDEX, "meet, other wrong", full, p -> p.meet(0, 16, 181) ? 1 : 0);
        check.refuses(Check.INDEX, "laid, all wrong", full, p -> p.laid(16, 3));
        check.refuses(Check.INDEX, "glue, no such part", full, p -> p.glue(16));
        check.refuses(Check.INDEX, "resize, all wrong", full, p -> p.resize(16, 31));
        check.refuses(Check.INDEX, "tells, all wrong", full, p -> p.tells(12, -1));
        check.refuses(Check.ARGUMENT, "fold, pull", full, p -> p.fold(0, 9, 0));
        check.refuses(Check.ARGUMENT, "fold, lean", full, p -> p.fold(0, 4, 91));
        check.refuses(Check.ARGUMENT, "part, place", full, p -> p.part(0, 61, 1, 0, 1, true));
        check.refuses(Check.ARGUMENT, "part, length", full, p -> p.part(0, 0, 31, 0, 1, true));
        check.refuses(Check.ARGUMENT, "part, line", full, p -> p.part(0, 0, 1, 21, 1, true));
        check.refuses(Check.ARGUMENT, "part, lines", full, p -> p.part(0, 0, 1, 0, 11, true));
    }

    @Says(section = "GLUING", words = "IndexOutOfBoundsException is thrown where there is no such fold, part or place")
    static void numbersOnceRefusedAreThereLater(Check check) {
        Springleaf page = new Springleaf();
        check.throwing("angle(1, 0)", Check.INDEX, () -> page.angle(1, 0));
        check.throwing("where(0, 0, 0)", Check.INDEX, () -> page.where(0, 0, 0));
        check.throwing("tells(0, -1)", Check.INDEX, () -> page.tells(0, -1));
        page.fold(0, 4, 7);
        page.part(1, 3, 30, 0, 1, true);
        check.due("angle(1, 0)", 7, () -> page.angle(1, 0));
        check.due("where(0, 0, 0)", 2, () -> page.where(0, 0, 0));
    }

    @Says(section = "GLUING", words = "IllegalArgumentException if another argument is out of range")
    static void anArgumentOfAPartIsNoIndex(Check check) {
        // The place of a part is one of the page too, but part tells IllegalArgumentException of it.
        check.refuses(Check.ARGUMENT, "part, place -1", Pages::fresh, p -> p.part(0, -1, 1, 0, 1, true));
        check.refuses(Check.ARGUMENT, "part, place 61", Pages::fresh, p -> p.part(0, 61, 1, 0, 1, true));
    }

    @Says(section = "GLUING", words = "`NONE = -1`: There is none")
    static void noneIsMinus1(Check check) {
        check.due("NONE", -1, () -> Springleaf.NONE);
        check.due("test() where nothing jams", -1, () -> new Springleaf().test());
        check.due("glued(0) where nothing is glued", -1, () -> new Springleaf().glued(0));
    }

    @Says(section = "Promise 11", words = "Glues a part")
    static void gluingPutsAPartBehindTheOthers(Check check) {
        Springleaf page = Pages.fullOfParts();
        page.glue(15);
        page.glue(0);
        check.due("glued(0)", 15, () -> page.glued(0));
        check.due("glued(1)", 0, () -> page.glued(1));
    }

    @Says(section = "Promise 11", words = "`part`: its number")
    static void theFirstAndLastPartAreGlued(Check check) {
        check.due("glue(0)", 1, () -> Pages.fullOfParts().glue(0));
        check.due("glue(15)", 1, () -> Pages.fullOfParts().glue(15));
    }

    @Says(section = "Promise 11", words = "Returns how many are glued")
    static void gluingCountsFrom1To16(Check check) {
        Springleaf page = Pages.fullOfParts();
        for (int part = 0; part <= 15; part++) {
            int next = part;
            check.due("glue(" + part + ")", part + 1, () -> page.glue(next));
        }
        page.unglue();
        check.due("glue(15) again", 16, () -> page.glue(15));
    }

    @Says(section = "Promise 11", words = "Throws `IndexOutOfBoundsException` if there is no such part")
    static void glueNone(Check check) {
        for (int part : new int[] {MIN, Springleaf.NONE, 3, 16, MAX}) {
            check.refuses(Check.INDEX, "glue(" + part + ")", Pages::halfGlued, p -> p.glue(part));
        }
        check.refuses(Check.INDEX, "glue(16) of 16", Pages::fullOfParts, p -> p.glue(16));
        check.refuses(Check.INDEX, "glue(16) of 16 glued", Pages::fullAndBound, p -> p.glue(16));
        check.refuses(Check.INDEX, "glue(0) of a new page", Pages::fresh, p -> p.glue(0));
    }

    @Says(section = "Promise 11", words = "Throws `IllegalStateException` if it is glued")
    static void glueWhatIsGlued(Check check) {
        check.refuses(Check.STATE, "glue(0), glued alone", Pages::halfGlued, p -> p.glue(0));
        check.refuses(Check.STATE, "glue(0), glued first", Pages::fullAndBound, p -> p.glue(0));
        check.refuses(Check.STATE, "glue(15), glued last", Pages::fullAndBound, p -> p.glue(15));
        Springleaf page = Pages.bound();
        page.resize(1, 5);
        check.due("glue(1), glued no more", 2, () -> page.glue(1));
    }

    @Says(section = "Promise 11", words = "or cannot be")
    static void glueWhatCannotBe(Check check) {
        check.refuses(Check.STATE, "glue, covered", GlueEdges::covered, p -> p.glue(1));
        check.refuses(Check.STATE, "glue, no hold", Pages::halfGlued, p -> p.glue(2));
        check.due("glue, neither", 2, () -> Pages.halfGlued().glue(1));
    }

    @Says(section = "Promise 12", words = "Unglues the part that was glued last")
    static void ungluedPartsCanBeGluedAgain(Check check) {
        Springleaf page = Pages.bound();
        check.due("unglue()", 2, () -> page.unglue());
        check.due("glued(2)", Springleaf.NONE, () -> page.glued(2));
        check.due("glued(1)", 1, () -> page.glued(1));
        check.due("glue(2)", 3, () -> page.glue(2));
    }

    @Says(section = "Promise 12", words = "Returns its number")
    static void unglueReturnsThePartNotItsStep(Check check) {
        Springleaf page = Pages.fullOfParts();
        page.glue(15);
        page.glue(0);
        page.glue(7);
        check.due("unglue()", 7, () -> page.unglue());
        check.due("unglue()", 0, () -> page.unglue());
        check.due("unglue()", 15, () -> page.unglue());
    }

    @Says(section = "Promise 12", words = "Throws `IllegalStateException` if none is glued")
    static void unglueWhereNoneIsGlued(Check check) {
        check.refuses(Check.STATE, "unglue() of a new page", Pages::fresh, p -> p.unglue());
        check.refuses(Check.STATE, "unglue() of 16 parts", Pages::fullOfParts, p -> p.unglue());
        Springleaf page = Pages.halfGlued();
        page.unglue();
        check.throwing("unglue() once more", Check.STATE, () -> page.unglue());
        Springleaf resized = Pages.bound();
        resized.resize(0, 9);
        check.throwing("unglue() behind resize", Check.STATE, () -> resized.unglue());
    }

    @Says(section = "Promise 13", words = "Returns the part that was glued at some step")
    static void gluedTellsEachStep(Check check) {
        Springleaf page = Pages.fullOfParts();
        for (int part = 15; part >= 0; part--) {
            page.glue(part);
        }
        for (int step = 0; step <= 15; step++) {
            int asked = step;
            check.due("glued(" + step + ")", 15 - step, () -> page.glued(asked));
        }
    }

    @Says(section = "Promise 13", words = "`step`: 0 for the first one")
    static void theFirstStepIs0(Check check) {
        Springleaf page = Pages.fullOfParts();
        page.glue(9);
        check.due("glued(0)", 9, () -> page.glued(0));
        check.due("glued(1)", Springleaf.NONE, () -> page.glued(1));
    }

    @Says(section = "Promise 13", words = "Returns the part, NONE if there are not so many")
    static void noPartBehindTheLastStep(Check check) {
        Springleaf page = Pages.fullAndBound();
        check.due("glued(15)", 15, () -> page.glued(15));
        check.due("glued(16)", Springleaf.NONE, () -> page.glued(16));
        check.due("glued(512)", Springleaf.NONE, () -> page.glued(512));
        check.due("glued(MAX)", Springleaf.NONE, () -> page.glued(MAX));
        check.due("glued(0) of a new page", Springleaf.NONE, () -> new Springleaf().glued(0));
        page.unglue();
        check.due("glued(15) of 15", Springleaf.NONE, () -> page.glued(15));
    }

    @Says(section = "Promise 13", words = "Throws `IndexOutOfBoundsException` if step is below 0")
    static void noStepBelow0(Check check) {
        check.refuses(Check.INDEX, "glued(-1) of a new page", Pages::fresh, p -> p.glued(-1));
        check.refuses(Check.INDEX, "glued(-1) of 16", Pages::fullAndBound, p -> p.glued(-1));
        check.refuses(Check.INDEX, "glued(MIN)", Pages::halfGlued, p -> p.glued(MIN));
    }

    @Says(section = "Promise 14", words = "Makes a part longer or shorter, also of a page that is BOUND")
    static void resizeOfABoundPage(Check check) {
        Springleaf page = Pages.bound();
        check.due("resize(1, 30)", 2, () -> page.resize(1, 30));
        check.due("isBound()", false, page.isBound());
        // Fold 1 is at 90 with the page open.
        check.due("where(1, 180, 0)", 30, () -> page.where(1, 180, 0));
        check.due("resize(1, 1)", 0, () -> page.resize(1, 1));
        check.due("where(1, 180, 0)", 1, () -> page.where(1, 180, 0));
        check.due("where(0, 90, 0) of another part", 9, () -> page.where(0, 90, 0));
    }

    @Says(section = "Promise 14", words = "`part`: its number")
    static void theFirstAndLastPartAreResized(Check check) {
        Springleaf page = Pages.fullOfParts();
        check.due("resize(0, 7)", 0, () -> page.resize(0, 7));
        check.due("resize(15, 8)", 0, () -> page.resize(15, 8));
        check.due("where(0, 90, 0)", 7, () -> page.where(0, 90, 0));
        check.due("where(14, 90, 0)", 5, () -> page.where(14, 90, 0));
        check.due("where(15, 90, 0)", 8, () -> page.where(15, 90, 0));
    }

    @Says(section = "Promise 14", words = "`length`: 1 to 30")
    static void newLengthTooSmallAndTooLarge(Check check) {
        for (int length : new int[] {MIN, -1, 0, 31, MAX}) {
            check.refuses(Check.ARGUMENT, "resize(0, " + length + ")", Pages::halfGlued, p -> p.resize(0, length));
        }
        Springleaf page = Pages.halfGlued();
        page.resize(0, 1);
        check.due("where(0, 0, 2), length 1", 11, () -> page.where(0, 0, 2));
        page.resize(0, 30);
        check.due("where(0, 0, 2), length 30", 40, () -> page.where(0, 0, 2));
    }

    @Says(section = "Promise 14", words = "Returns how many parts are unglued by that")
    static void resizeCountsFrom0To16(Check check) {
        check.due("resize of a part not glued", 0, () -> Pages.fullOfParts().resize(3, 5));
        check.due("resize of a part not glued, behind glued ones", 0, () -> Pages.halfGlued().resize(1, 5));
        check.due("resize of the last one glued", 1, () -> Pages.fullAndBound().resize(15, 6));
        check.due("resize of the first one glued", 16, () -> Pages.fullAndBound().resize(0, 6));
        Springleaf page = Pages.halfGlued();
        page.resize(1, 5);
        check.due("glued(0) behind it", 0, () -> page.glued(0));
    }

    @Says(section = "Promise 14", words = "Throws `IndexOutOfBoundsException` if there is no such part")
    static void resizeNone(Check check) {
        for (int part : new int[] {MIN, Springleaf.NONE, 3, 16, MAX}) {
            check.refuses(Check.INDEX, "resize(" + part + ", 5)", Pages::halfGlued, p -> p.resize(part, 5));
            check.refuses(Check.INDEX, "resize(" + part + ", 0)", Pages::halfGlued, p -> p.resize(part, 0));
        }
        check.refuses(Check.INDEX, "resize(16, 31) of 16", Pages::fullAndBound, p -> p.resize(16, 31));
        check.refuses(Check.INDEX, "resize(0, 1) of a new page", Pages::fresh, p -> p.resize(0, 1));
    }

    @Says(section = "Promise 14", words = "Throws `IllegalArgumentException` if length is out of range")
    static void resizeOfABoundPageToAWrongLength(Check check) {
        check.refuses(Check.ARGUMENT, "resize(0, 0)", Pages::bound, p -> p.resize(0, 0));
        check.refuses(Check.ARGUMENT, "resize(15, 31)", Pages::fullAndBound, p -> p.resize(15, 31));
    }

    @Says(section = "Promise 15", words = "Tells whether the page is BOUND")
    static void boundByTheLastGluing(Check check) {
        check.due("isBound() of a half glued page", false, Pages.halfGlued().isBound());
        check.due("isBound() of a bound page", true, Pages.bound().isBound());
        check.due("isBound() of a full and bound page", true, Pages.fullAndBound().isBound());
        check.due("isBound() of a page that jams", false, Pages.jammed().isBound());
        Springleaf least = new Springleaf();
        least.part(0, 0, 1, 0, 1, true);
        check.due("isBound() of one part not glued", false, least.isBound());
        least.glue(0);
        check.due("isBound() of one part glued", true, least.isBound());
        least.unglue();
        check.due("isBound() of one part unglued", false, least.isBound());
    }

    @Says(section = "Promise 15", words = "one without parts is not")
    static void aPageWithoutPartsIsNotBound(Check check) {
        check.due("isBound() of a new page", false, new Springleaf().isBound());
        check.due("isBound() of folds without parts", false, Pages.fullOfFolds().isBound());
        check.due("fold of a new page", 1, () -> new Springleaf().fold(0, 4, 0));
        check.due("part of a new page", 0, () -> new Springleaf().part(0, 0, 1, 0, 1, true));
    }

    /** Two parts, of which the first one is glued and covers where the other begins. */
    private static Springleaf covered() {
        Springleaf page = coverAnd(30, 5, 1);
        page.glue(0);
        return page;
    }

    /** A part that covers the places 20 to 30 of the lines 5 to 9, not glued, and another one. */
    private static Springleaf coverAnd(int place, int line, int lines) {
        Springleaf page = new Springleaf();
        page.part(0, 30, 10, 5, 5, true);
        page.part(0, place, 1, line, lines, true);
        return page;
    }

    /** A part from 30 on, 10 long, on a fold of its own, one on its line, and one glued that holds the fold. */
    private static Springleaf coverOnFoldAnd(int pull, int lean, int place) {
        Springleaf page = new Springleaf();
        page.fold(0, pull, lean);
        page.part(1, 30, 10, 5, 1, true);
        page.part(0, place, 1, 5, 1, true);
        page.part(0, 60, 1, 20, 1, true);
        page.glue(2);
        return page;
    }

    /** Glues part 0, and looks whether part 1 can be glued then. */
    private static void glues(Check check, String where, Springleaf page, boolean can) {
        page.glue(0);
        String got = Check.outcome(() -> page.glue(1));
        check.compare("glue " + where, can ? "can be" : "cannot be",
                got.equals(Check.STATE) ? "cannot be" : got.endsWith("Exception") ? got : "can be");
    }
}
