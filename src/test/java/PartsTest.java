/** Promises 3, 6, 7 and 8: part, where, meet, test. */
public final class PartsTest {
    private static final Check check = new Check();

    public static void main(String[] args) {
        promise03PartArguments();
        promise03PartEdges();
        promise03PartLimits();
        promise06WherePastUpright();
        promise06WhereRounds();
        promise06WhereFollowsItsFold();
        promise06WhereThrows();
        promise07MeetBands();
        promise07MeetSpans();
        promise07MeetRises();
        promise07MeetThrows();
        promise08TestTellsTheFirstAngleAndPart();
        promise08TestStepsBy15();
        check.end();
    }

    private static void promise03PartArguments() {
        Springleaf page = new Springleaf();
        check.throwing("part(1, ..)", Check.INDEX, () -> page.part(1, -1, 0, -1, 0, true));
        check.throwing("part(-1, ..)", Check.INDEX, () -> page.part(-1, 0, 1, 0, 1, true));
        check.throwing("place -1", Check.ARGUMENT, () -> page.part(0, -1, 1, 0, 1, true));
        check.throwing("place 61", Check.ARGUMENT, () -> page.part(0, 61, 1, 0, 1, true));
        check.throwing("length 0", Check.ARGUMENT, () -> page.part(0, 0, 0, 0, 1, true));
        check.throwing("length 31", Check.ARGUMENT, () -> page.part(0, 0, 31, 0, 1, true));
        check.throwing("line -1", Check.ARGUMENT, () -> page.part(0, 0, 1, -1, 1, true));
        check.throwing("line 21", Check.ARGUMENT, () -> page.part(0, 0, 1, 21, 1, true));
        check.throwing("lines 0", Check.ARGUMENT, () -> page.part(0, 0, 1, 0, 0, true));
        check.throwing("lines 11", Check.ARGUMENT, () -> page.part(0, 0, 1, 0, 11, true));
        check.throwing("lines MAX", Check.ARGUMENT, () -> page.part(0, 0, 1, 0, Integer.MAX_VALUE, true));
        check.throwing("no part was made", Check.INDEX, () -> page.where(0, 0, 0));
    }

    private static void promise03PartEdges() {
        Springleaf page = new Springleaf();
        page.fold(0, 4, 0);
        check.due("the least part", 0, () -> page.part(0, 0, 1, 0, 1, false));
        check.due("the greatest part", 1, () -> page.part(1, 60, 30, 20, 10, true));
        check.due("its place", 60, () -> page.where(1, 90, 1));
        check.due("its length", 30, () -> page.where(1, 90, 0));
    }

    private static void promise03PartLimits() {
        Springleaf page = new Springleaf();
        for (int number = 0; number < 16; number++) {
            int due = number;
            check.due("part " + due, due, () -> page.part(0, due, 1, 0, 1, true));
        }
        check.throwing("part 16", Check.STATE, () -> page.part(0, 0, 1, 0, 1, true));
        check.throwing("part 16, length 0", Check.ARGUMENT, () -> page.part(0, 0, 0, 0, 1, true));
        check.throwing("part 16, fold 1", Check.INDEX, () -> page.part(1, 0, 0, 0, 1, true));
        check.throwing("where(16, 0, 0)", Check.INDEX, () -> page.where(16, 0, 0));
        check.due("where(15, 90, 1)", 15, () -> page.where(15, 90, 1));

        Springleaf bound = new Springleaf();
        bound.part(0, 10, 5, 0, 2, true);
        bound.glue(0);
        check.throwing("part of a bound page", Check.STATE, () -> bound.part(0, 0, 1, 5, 1, true));
        check.throwing("part of a bound page, line 21", Check.ARGUMENT, () -> bound.part(0, 0, 1, 21, 1, true));
        check.throwing("part of a bound page, fold 1", Check.INDEX, () -> bound.part(1, 0, 1, 0, 1, true));
        bound.unglue();
        check.due("part of a page bound no more", 1, () -> bound.part(0, 0, 1, 5, 1, true));
    }

    private static void promise06WherePastUpright() {
        Springleaf page = new Springleaf();
        page.part(0, 10, 9, 0, 3, true);
        where(page, 0, 0, 0, 10, 19);
        where(page, 0, 45, 4, 10, 14);
        where(page, 0, 90, 9, 10, 10);
        where(page, 0, 135, 4, 6, 10);
        where(page, 0, 180, 0, 1, 10);
    }

    private static void promise06WhereRounds() {
        Springleaf page = new Springleaf();
        page.part(0, 10, 9, 0, 3, true);
        page.part(0, 0, 30, 0, 1, true);
        page.part(0, 60, 1, 0, 1, true);
        // 9 * 89 / 90 is 8.9; 9 * -1 / 90 is -0.1, toward 0.
        where(page, 0, 89, 8, 10, 10);
        where(page, 0, 91, 8, 10, 10);
        where(page, 0, 99, 8, 10, 10);
        where(page, 0, 100, 8, 9, 10);
        where(page, 0, 109, 7, 9, 10);
        where(page, 1, 180, 0, -30, 0);
        where(page, 1, 2, 0, 0, 29);
        where(page, 1, 3, 1, 0, 29);
        where(page, 2, 0, 0, 60, 61);
        where(page, 2, 1, 0, 60, 60);
        where(page, 2, 179, 0, 60, 60);
        where(page, 2, 180, 0, 59, 60);
    }

    private static void promise06WhereFollowsItsFold() {
        Springleaf page = new Springleaf();
        page.fold(0, 2, 0);
        page.fold(1, 8, -20);
        page.part(1, 20, 18, 2, 2, false);
        page.part(2, 20, 18, 2, 2, false);
        where(page, 0, 90, 9, 20, 29);
        where(page, 0, 180, 18, 20, 20);
        // Fold 2 stands at 70, 160.
        where(page, 1, 90, 14, 20, 24);
        where(page, 1, 180, 4, 6, 20);
    }

    private static void promise06WhereThrows() {
        Springleaf page = new Springleaf();
        page.part(0, 10, 9, 0, 3, true);
        check.throwing("where(1, 181, 3)", Check.INDEX, () -> page.where(1, 181, 3));
        check.throwing("where(-1, 0, 0)", Check.INDEX, () -> page.where(-1, 0, 0));
        check.throwing("where(0, -1, 0)", Check.ARGUMENT, () -> page.where(0, -1, 0));
        check.throwing("where(0, 181, 0)", Check.ARGUMENT, () -> page.where(0, 181, 0));
        check.throwing("where(0, 0, -1)", Check.ARGUMENT, () -> page.where(0, 0, -1));
        check.throwing("where(0, 0, 3)", Check.ARGUMENT, () -> page.where(0, 0, 3));
        check.throwing("where(0, MAX, 0)", Check.ARGUMENT, () -> page.where(0, Integer.MAX_VALUE, 0));
    }

    private static void promise07MeetBands() {
        Springleaf page = new Springleaf();
        page.part(0, 30, 10, 5, 5, true);
        page.part(0, 30, 10, 9, 5, true);
        page.part(0, 30, 10, 10, 5, true);
        page.part(0, 30, 10, 4, 1, true);
        page.part(0, 30, 10, 5, 1, true);
        meets(page, 0, 1, 90, true);
        meets(page, 0, 2, 90, false);
        meets(page, 0, 3, 90, false);
        meets(page, 0, 4, 90, true);
        meets(page, 1, 2, 90, true);
        meets(page, 0, 0, 90, false);
    }

    private static void promise07MeetSpans() {
        Springleaf page = new Springleaf();
        page.part(0, 30, 9, 0, 1, true);
        page.part(0, 34, 9, 0, 1, true);
        page.part(0, 35, 9, 0, 1, true);
        page.part(0, 26, 9, 0, 1, true);
        // At 45 a span is its place and four more, at 135 four less.
        meets(page, 0, 1, 45, true);
        meets(page, 0, 2, 45, false);
        meets(page, 0, 3, 45, true);
        meets(page, 0, 1, 135, true);
        meets(page, 0, 2, 135, false);
        meets(page, 0, 1, 90, false);
    }

    private static void promise07MeetRises() {
        Springleaf page = new Springleaf();
        page.fold(0, 4, -80);
        page.part(0, 30, 10, 0, 1, true);
        page.part(0, 30, 11, 0, 1, true);
        page.part(0, 30, 12, 0, 1, true);
        page.part(1, 30, 10, 0, 1, true);
        meets(page, 0, 1, 90, true);
        meets(page, 0, 2, 90, false);
        meets(page, 1, 2, 90, true);
        meets(page, 0, 2, 45, true);
        meets(page, 0, 1, 0, false);
        meets(page, 0, 1, 180, false);
        // 10 * 8 / 90 is 0, 11 * 8 / 90 is 0; at 9 both rise to 1.
        meets(page, 0, 1, 8, false);
        meets(page, 0, 1, 9, true);
        // Both must rise: 10 * 6 / 90 is 0, 15 * 6 / 90 is 1.
        page.resize(2, 15);
        meets(page, 0, 2, 6, false);
        meets(page, 0, 2, 9, true);
        // Parts on folds with other angles.
        check.due("rise of part 3 at 90", 1, () -> page.where(3, 90, 0));
        meets(page, 0, 3, 90, false);
        check.due("rise of part 3 at 130", 5, () -> page.where(3, 130, 0));
        check.due("rise of part 0 at 130", 5, () -> page.where(0, 130, 0));
        meets(page, 0, 3, 130, true);
    }

    private static void promise07MeetThrows() {
        Springleaf page = new Springleaf();
        page.part(0, 30, 10, 0, 1, true);
        page.part(0, 30, 10, 0, 1, true);
        check.throwing("meet(2, 0, 181)", Check.INDEX, () -> page.meet(2, 0, 181) ? 1 : 0);
        check.throwing("meet(0, 2, 181)", Check.INDEX, () -> page.meet(0, 2, 181) ? 1 : 0);
        check.throwing("meet(-1, 0, 0)", Check.INDEX, () -> page.meet(-1, 0, 0) ? 1 : 0);
        check.throwing("meet(0, -1, 0)", Check.INDEX, () -> page.meet(0, -1, 0) ? 1 : 0);
        check.throwing("meet(2, 2, 0)", Check.INDEX, () -> page.meet(2, 2, 0) ? 1 : 0);
        check.throwing("meet(0, 1, 181)", Check.ARGUMENT, () -> page.meet(0, 1, 181) ? 1 : 0);
        check.throwing("meet(0, 1, -1)", Check.ARGUMENT, () -> page.meet(0, 1, -1) ? 1 : 0);
        check.throwing("meet(0, 0, 181)", Check.ARGUMENT, () -> page.meet(0, 0, 181) ? 1 : 0);
    }

    private static void promise08TestTellsTheFirstAngleAndPart() {
        Springleaf page = new Springleaf();
        page.part(0, 5, 5, 20, 1, true);
        page.part(0, 30, 6, 0, 5, true);
        check.due("test() of parts apart", Springleaf.NONE, () -> page.test());
        page.part(0, 35, 6, 3, 5, true);
        check.due("test() of parts that meet at 15", 1015, () -> page.test());
        // A length of 5 rises to 0 at 15, to 1 at 30.
        page.part(0, 5, 5, 20, 1, true);
        check.due("the earlier angle goes before the earlier part", 1015, () -> page.test());
        page.resize(0, 6);
        page.resize(3, 6);
        check.due("the earlier part goes first at one angle", 15, () -> page.test());
        page.resize(0, 30);
        page.resize(2, 30);
        check.due("test() of parts that rise apart", Springleaf.NONE, () -> page.test());
        page.resize(1, 30);
        check.due("test() of parts that rise together anew", 1015, () -> page.test());
    }

    private static void promise08TestStepsBy15() {
        Springleaf early = pageWithTwoPartsOn(new int[] {8}, new int[] {90});
        check.due("test() at the first angle", 0, () -> early.test());

        // The last fold leaves 0 behind 165, so only 180 of the tester's angles finds them risen.
        Springleaf late = pageWithTwoPartsOn(new int[] {4, 4}, new int[] {-90, -75});
        meets(late, 0, 1, 165, false);
        meets(late, 0, 1, 168, true);
        check.due("test() at the last angle", 180, () -> late.test());

        // The last fold goes from 0 to 180 between 15 and 30.
        Springleaf between = pageWithTwoPartsOn(new int[] {8, 8, 8, 8}, new int[] {-30, 0, 0, 0});
        meets(between, 0, 1, 15, false);
        meets(between, 0, 1, 22, true);
        meets(between, 0, 1, 30, false);
        check.due("test() of parts that meet between its steps", Springleaf.NONE, () -> between.test());
    }

    private static Springleaf pageWithTwoPartsOn(int[] pulls, int[] leans) {
        Springleaf page = new Springleaf();
        for (int on = 0; on < pulls.length; on++) {
            page.fold(on, pulls[on], leans[on]);
        }
        page.part(pulls.length, 30, 30, 0, 1, true);
        page.part(pulls.length, 30, 30, 0, 1, true);
        return page;
    }

    private static void where(Springleaf page, int part, int open, int rise, int start, int end) {
        String call = "where(" + part + ", " + open + ", ";
        check.due(call + "0)", rise, () -> page.where(part, open, 0));
        check.due(call + "1)", start, () -> page.where(part, open, 1));
        check.due(call + "2)", end, () -> page.where(part, open, 2));
    }

    private static void meets(Springleaf page, int part, int other, int open, boolean want) {
        String call = " at " + open;
        check.due("meet " + part + " " + other + call, want, page.meet(part, other, open));
        check.due("meet " + other + " " + part + call, want, page.meet(other, part, open));
    }
}
