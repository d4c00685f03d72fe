/** Promises 11 to 15: glue, unglue, glued, resize, isBound. */
public final class GluingTest {
    private static final Check check = new Check();

    public static void main(String[] args) {
        promise11GlueCounts();
        promise11GlueNeedsTheStartFree();
        promise11GlueLooksAtTheOpenPage();
        promise11GlueNeedsAHold();
        promise12UnglueTheLatest();
        promise13Glued();
        promise14ResizeUngluesWhatIsBehind();
        promise14ResizeThrowsAndChangesNothing();
        promise15IsBound();
        promise15BoundPageAllowsTheRest();
        check.end();
    }

    private static void promise11GlueCounts() {
        Springleaf page = pageOfThree();
        check.throwing("glue(3)", Check.INDEX, () -> page.glue(3));
        check.throwing("glue(-1)", Check.INDEX, () -> page.glue(-1));
        check.due("glue(1)", 1, () -> page.glue(1));
        check.throwing("glue(1) again", Check.STATE, () -> page.glue(1));
        check.due("glue(2)", 2, () -> page.glue(2));
        check.due("glue(0)", 3, () -> page.glue(0));
        check.throwing("glue(0) again", Check.STATE, () -> page.glue(0));
        check.throwing("glue(3) at last", Check.INDEX, () -> page.glue(3));
    }

    private static void promise11GlueNeedsTheStartFree() {
        Springleaf page = new Springleaf();
        page.part(0, 30, 10, 5, 5, true);
        page.part(0, 20, 1, 9, 1, true);
        page.part(0, 19, 1, 9, 1, true);
        page.part(0, 30, 1, 4, 2, true);
        page.part(0, 31, 1, 5, 1, true);
        page.part(0, 25, 1, 10, 1, true);
        page.part(0, 25, 1, 0, 5, true);
        // Open, part 0 covers the places 20 to 30 of the lines 5 to 9.
        page.glue(0);
        check.throwing("glue at the lesser end", Check.STATE, () -> page.glue(1));
        check.due("glue before the lesser end", 2, () -> page.glue(2));
        check.throwing("glue at the greater end", Check.STATE, () -> page.glue(3));
        check.due("glue behind the greater end", 3, () -> page.glue(4));
        check.due("glue behind the band", 4, () -> page.glue(5));
        check.due("glue before the band", 5, () -> page.glue(6));
        page.resize(0, 9);
        check.due("glue where nothing is glued", 1, () -> page.glue(1));
        check.due("a part that only covers another's start is glued", 2, () -> page.glue(0));
    }

    private static void promise11GlueLooksAtTheOpenPage() {
        Springleaf page = new Springleaf();
        page.fold(0, 2, 0);
        page.fold(0, 2, -90);
        page.part(0, 50, 1, 20, 1, true);
        page.part(1, 30, 10, 0, 1, true);
        page.part(2, 30, 10, 5, 1, true);
        page.part(0, 35, 1, 0, 1, true);
        page.part(0, 25, 1, 0, 1, true);
        page.part(0, 30, 1, 0, 1, true);
        page.part(0, 35, 1, 5, 1, true);
        page.part(0, 25, 1, 5, 1, true);
        page.glue(0);
        page.glue(1);
        page.glue(2);
        // With the page at 180, fold 1 is at 90 and fold 2 at 0.
        check.due("glue behind a part that stands upright", 4, () -> page.glue(3));
        check.due("glue before it", 5, () -> page.glue(4));
        check.throwing("glue on it", Check.STATE, () -> page.glue(5));
        check.throwing("glue under a part that lies forward", Check.STATE, () -> page.glue(6));
        check.due("glue before it", 6, () -> page.glue(7));
    }

    private static void promise11GlueNeedsAHold() {
        Springleaf page = new Springleaf();
        page.fold(0, 4, 0);
        page.fold(1, 4, 0);
        page.fold(0, 4, 0);
        page.part(2, 10, 1, 0, 1, true);
        page.part(1, 10, 1, 2, 1, true);
        page.part(3, 10, 1, 4, 1, true);
        page.part(0, 10, 1, 6, 1, true);
        page.part(0, 10, 1, 8, 1, true);
        check.throwing("glue on fold 1, nothing glued", Check.STATE, () -> page.glue(1));
        check.throwing("glue on fold 2, nothing glued", Check.STATE, () -> page.glue(0));
        check.due("glue on fold 0", 1, () -> page.glue(3));
        check.throwing("glue on fold 2, fold 0 glued", Check.STATE, () -> page.glue(0));
        check.due("glue on fold 3", 2, () -> page.glue(2));
        check.throwing("glue on fold 2, fold 3 glued", Check.STATE, () -> page.glue(0));
        check.due("glue on fold 1", 3, () -> page.glue(1));
        check.due("glue on fold 2, fold 1 glued", 4, () -> page.glue(0));
        check.due("glue on fold 0 again", 5, () -> page.glue(4));
    }

    private static void promise12UnglueTheLatest() {
        Springleaf page = pageOfThree();
        check.throwing("unglue() of nothing", Check.STATE, () -> page.unglue());
        page.glue(2);
        page.glue(0);
        page.glue(1);
        check.due("unglue()", 1, () -> page.unglue());
        check.due("unglue()", 0, () -> page.unglue());
        check.due("glue(1)", 2, () -> page.glue(1));
        check.due("unglue()", 1, () -> page.unglue());
        check.due("unglue()", 2, () -> page.unglue());
        check.throwing("unglue() of nothing", Check.STATE, () -> page.unglue());
    }

    private static void promise13Glued() {
        Springleaf page = pageOfThree();
        check.throwing("glued(-1)", Check.INDEX, () -> page.glued(-1));
        check.throwing("glued(MIN)", Check.INDEX, () -> page.glued(Integer.MIN_VALUE));
        page.glue(2);
        page.glue(0);
        check.due("glued(0)", 2, () -> page.glued(0));
        check.due("glued(1)", 0, () -> page.glued(1));
        check.due("glued(2)", Springleaf.NONE, () -> page.glued(2));
        check.due("glued(MAX)", Springleaf.NONE, () -> page.glued(Integer.MAX_VALUE));
        page.unglue();
        check.due("glued(1) of one unglued", Springleaf.NONE, () -> page.glued(1));
        check.throwing("glued(-1)", Check.INDEX, () -> page.glued(-1));
    }

    private static void promise14ResizeUngluesWhatIsBehind() {
        Springleaf page = pageOfThree();
        check.due("resize of a part not glued", 0, () -> page.resize(1, 6));
        check.due("its length", 6, () -> page.where(1, 90, 0));
        page.glue(2);
        page.glue(0);
        page.glue(1);
        check.due("resize to the same length", 1, () -> page.resize(1, 6));
        check.due("resize of a part not glued", 0, () -> page.resize(1, 30));
        check.due("glued(1)", 0, () -> page.glued(1));
        page.glue(1);
        check.due("resize in the middle", 2, () -> page.resize(0, 1));
        check.due("glued(0)", 2, () -> page.glued(0));
        check.due("glued(1)", Springleaf.NONE, () -> page.glued(1));
        check.due("glue(1)", 2, () -> page.glue(1));
        check.due("glue(0)", 3, () -> page.glue(0));
        check.due("resize of the first of all", 3, () -> page.resize(2, 7));
        check.throwing("unglue()", Check.STATE, () -> page.unglue());
    }

    private static void promise14ResizeThrowsAndChangesNothing() {
        Springleaf page = pageOfThree();
        page.glue(0);
        check.throwing("resize(3, 0)", Check.INDEX, () -> page.resize(3, 0));
        check.throwing("resize(-1, 5)", Check.INDEX, () -> page.resize(-1, 5));
        check.throwing("resize(0, 0)", Check.ARGUMENT, () -> page.resize(0, 0));
        check.throwing("resize(0, 31)", Check.ARGUMENT, () -> page.resize(0, 31));
        check.throwing("resize(0, MIN)", Check.ARGUMENT, () -> page.resize(0, Integer.MIN_VALUE));
        check.due("its length", 5, () -> page.where(0, 90, 0));
        check.due("glued(0)", 0, () -> page.glued(0));
        check.due("resize(0, 1)", 1, () -> page.resize(0, 1));
        check.due("resize(0, 30)", 0, () -> page.resize(0, 30));
        check.due("its length", 30, () -> page.where(0, 90, 0));
    }

    private static void promise15IsBound() {
        Springleaf page = pageOfThree();
        page.glue(0);
        page.glue(1);
        check.due("isBound() with one part not glued", false, page.isBound());
        page.glue(2);
        check.due("isBound()", true, page.isBound());
        page.unglue();
        check.due("isBound() with one unglued", false, page.isBound());

        Springleaf jam = new Springleaf();
        jam.part(0, 30, 6, 0, 5, true);
        jam.part(0, 35, 6, 3, 5, true);
        jam.glue(0);
        jam.glue(1);
        check.due("isBound() of a page that jams", false, jam.isBound());
        check.due("it can be changed", 2, () -> jam.part(0, 5, 6, 20, 1, true));
        check.due("it can be changed", 1, () -> jam.fold(0, 4, 0));
        jam.unglue();
        jam.resize(1, 30);
        jam.glue(1);
        jam.glue(2);
        check.due("isBound() of a page that jams no more", true, jam.isBound());
    }

    private static void promise15BoundPageAllowsTheRest() {
        Springleaf page = pageOfThree();
        page.glue(0);
        page.glue(1);
        page.glue(2);
        check.throwing("glue of a bound page", Check.STATE, () -> page.glue(0));
        check.throwing("fold of a bound page", Check.STATE, () -> page.fold(0, 4, 0));
        check.throwing("part of a bound page", Check.STATE, () -> page.part(0, 0, 1, 9, 1, true));
        check.due("test of a bound page", Springleaf.NONE, () -> page.test());
        check.due("resize of a bound page", 2, () -> page.resize(1, 6));
        check.due("isBound()", false, page.isBound());
        check.due("part of a page bound no more", 3, () -> page.part(0, 0, 1, 9, 1, true));
    }

    /** Parts that can be glued in any order and never meet. */
    private static Springleaf pageOfThree() {
        Springleaf page = new Springleaf();
        page.part(0, 30, 5, 0, 2, true);
        page.part(0, 30, 5, 2, 2, true);
        page.part(0, 30, 5, 4, 2, true);
        return page;
    }
}
