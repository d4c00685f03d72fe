/** Promises 1, 2, 4, 5 and 16: a new object, fold, angle, angleAnew, tells. */
public final class FoldsTest {
    private static final Check check = new Check();

    public static void main(String[] args) {
        promise01NewObject();
        promise02FoldArguments();
        promise02FoldLimits();
        promise04Angle();
        promise04AngleIsHeldBetween0And180();
        promise05AngleAnew();
        promise16Tells();
        promise16TellsTheLongestChain();
        check.end();
    }

    private static void promise01NewObject() {
        Springleaf page = new Springleaf();
        check.due("NONE", -1, () -> Springleaf.NONE);
        check.due("new angle(0, 0)", 0, () -> page.angle(0, 0));
        check.due("new angle(0, 180)", 180, () -> page.angle(0, 180));
        check.throwing("new angle(1, 0)", Check.INDEX, () -> page.angle(1, 0));
        check.throwing("new where(0, 0, 0)", Check.INDEX, () -> page.where(0, 0, 0));
        check.throwing("new meet(0, 0, 0)", Check.INDEX, () -> page.meet(0, 0, 0) ? 1 : 0);
        check.throwing("new laid(0, 0)", Check.INDEX, () -> page.laid(0, 0));
        check.throwing("new glue(0)", Check.INDEX, () -> page.glue(0));
        check.throwing("new resize(0, 1)", Check.INDEX, () -> page.resize(0, 1));
        check.throwing("new unglue()", Check.STATE, () -> page.unglue());
        check.due("new glued(0)", Springleaf.NONE, () -> page.glued(0));
        check.due("new test()", Springleaf.NONE, () -> page.test());
        check.due("new sheets()", 0, () -> page.sheets());
        check.due("new isBound()", false, page.isBound());
    }

    private static void promise02FoldArguments() {
        Springleaf page = new Springleaf();
        check.throwing("fold(-1, 1, 0)", Check.INDEX, () -> page.fold(-1, 1, 0));
        check.throwing("fold(1, 1, 0)", Check.INDEX, () -> page.fold(1, 1, 0));
        check.throwing("fold(MAX, 0, 99)", Check.INDEX, () -> page.fold(Integer.MAX_VALUE, 0, 99));
        check.throwing("fold(MIN, 0, 99)", Check.INDEX, () -> page.fold(Integer.MIN_VALUE, 0, 99));
        check.throwing("fold(0, 0, 0)", Check.ARGUMENT, () -> page.fold(0, 0, 0));
        check.throwing("fold(0, 9, 0)", Check.ARGUMENT, () -> page.fold(0, 9, 0));
        check.throwing("fold(0, 1, -91)", Check.ARGUMENT, () -> page.fold(0, 1, -91));
        check.throwing("fold(0, 1, 91)", Check.ARGUMENT, () -> page.fold(0, 1, 91));
        check.throwing("fold(0, MIN, MAX)", Check.ARGUMENT,
                () -> page.fold(0, Integer.MIN_VALUE, Integer.MAX_VALUE));
        check.due("fold(0, 1, -90)", 1, () -> page.fold(0, 1, -90));
        check.due("fold(0, 8, 90)", 2, () -> page.fold(0, 8, 90));
        check.due("fold(2, 4, 0)", 3, () -> page.fold(2, 4, 0));
        check.throwing("fold(4, 4, 0)", Check.INDEX, () -> page.fold(4, 4, 0));
    }

    private static void promise02FoldLimits() {
        Springleaf page = new Springleaf();
        for (int number = 1; number < 12; number++) {
            int on = number - 1;
            check.due("fold " + number, number, () -> page.fold(on, 4, 0));
        }
        check.throwing("fold 12", Check.STATE, () -> page.fold(0, 4, 0));
        check.throwing("fold 12 on 12", Check.INDEX, () -> page.fold(12, 4, 0));
        check.throwing("fold 12, pull 9", Check.ARGUMENT, () -> page.fold(0, 9, 0));
        check.throwing("angle(12, 0)", Check.INDEX, () -> page.angle(12, 0));
        check.due("angle(11, 77)", 77, () -> page.angle(11, 77));
        check.due("angleAnew(11, 77)", 77, () -> page.angleAnew(11, 77));

        Springleaf bound = new Springleaf();
        bound.part(0, 10, 5, 0, 2, true);
        check.due("fold of a page not bound", 1, () -> bound.fold(0, 4, 0));
        bound.glue(0);
        check.throwing("fold of a bound page", Check.STATE, () -> bound.fold(0, 4, 0));
        check.throwing("fold of a bound page, lean 91", Check.ARGUMENT, () -> bound.fold(0, 4, 91));
        check.throwing("fold of a bound page, on 2", Check.INDEX, () -> bound.fold(2, 4, 0));
        bound.unglue();
        check.due("fold of a page bound no more", 2, () -> bound.fold(1, 4, 0));
    }

    private static void promise04Angle() {
        Springleaf page = new Springleaf();
        page.fold(0, 3, 10);
        page.fold(1, 5, -30);
        check.due("angle(1, 0)", 10, () -> page.angle(1, 0));
        check.due("angle(1, 3)", 12, () -> page.angle(1, 3));
        check.due("angle(1, 100)", 85, () -> page.angle(1, 100));
        check.due("angle(2, 100)", 76, () -> page.angle(2, 100));
        check.due("angle(2, 20)", 1, () -> page.angle(2, 20));
        check.throwing("angle(-1, 0)", Check.INDEX, () -> page.angle(-1, 0));
        check.throwing("angle(3, 181)", Check.INDEX, () -> page.angle(3, 181));
        check.throwing("angle(2, 181)", Check.ARGUMENT, () -> page.angle(2, 181));
        check.throwing("angle(2, -1)", Check.ARGUMENT, () -> page.angle(2, -1));
        check.throwing("angle(0, MAX)", Check.ARGUMENT, () -> page.angle(0, Integer.MAX_VALUE));
        check.throwing("angle(0, MIN)", Check.ARGUMENT, () -> page.angle(0, Integer.MIN_VALUE));
    }

    private static void promise04AngleIsHeldBetween0And180() {
        Springleaf page = new Springleaf();
        page.fold(0, 4, -90);
        page.fold(0, 8, 0);
        page.fold(1, 4, 7);
        page.fold(2, 4, -1);
        check.due("angle(1, 89)", 0, () -> page.angle(1, 89));
        check.due("angle(1, 90)", 0, () -> page.angle(1, 90));
        check.due("angle(1, 91)", 1, () -> page.angle(1, 91));
        check.due("angle(2, 90)", 180, () -> page.angle(2, 90));
        check.due("angle(2, 91)", 180, () -> page.angle(2, 91));
        check.due("angle(3, 0) on a held one", 7, () -> page.angle(3, 0));
        check.due("angle(4, 180) on a held one", 179, () -> page.angle(4, 180));
    }

    private static void promise05AngleAnew() {
        for (int fold = 0; fold < 6; fold++) {
            // A page of its own for each fold, since nothing is promised behind 512 calls.
            Springleaf page = pageOfSixFolds();
            for (int open = 0; open <= 180; open++) {
                int f = fold;
                int o = open;
                check.due("angleAnew(" + f + ", " + o + ")", page.angle(f, o), () -> page.angleAnew(f, o));
            }
        }
        Springleaf page = pageOfSixFolds();
        check.due("angleAnew(2, 100)", 76, () -> page.angleAnew(2, 100));
        check.due("angleAnew(3, 44)", 178, () -> page.angleAnew(3, 44));
        check.due("angleAnew(3, 46)", 180, () -> page.angleAnew(3, 46));
        check.throwing("angleAnew(6, 181)", Check.INDEX, () -> page.angleAnew(6, 181));
        check.throwing("angleAnew(-1, 0)", Check.INDEX, () -> page.angleAnew(-1, 0));
        check.throwing("angleAnew(5, 181)", Check.ARGUMENT, () -> page.angleAnew(5, 181));
        check.throwing("angleAnew(5, -1)", Check.ARGUMENT, () -> page.angleAnew(5, -1));
        check.throwing("angleAnew(5, MAX)", Check.ARGUMENT, () -> page.angleAnew(5, Integer.MAX_VALUE));
    }

    private static Springleaf pageOfSixFolds() {
        Springleaf page = new Springleaf();
        page.fold(0, 3, 10);
        page.fold(1, 5, -30);
        page.fold(0, 8, 90);
        page.fold(3, 1, -45);
        page.fold(2, 7, 33);
        return page;
    }

    private static void promise16Tells() {
        Springleaf page = new Springleaf();
        page.fold(0, 2, 0);
        page.fold(1, 8, -20);
        page.fold(0, 1, 90);
        page.fold(2, 3, 5);
        text(page, 0, "f0");
        text(page, 1, "f1*2+0 on f0");
        text(page, 2, "f2*8-20 on f1*2+0 on f0");
        text(page, 3, "f3*1+90 on f0");
        text(page, 4, "f4*3+5 on f2*8-20 on f1*2+0 on f0");
        check.throwing("tells(-1, 0)", Check.INDEX, () -> page.tells(-1, 0));
        check.throwing("tells(5, 0)", Check.INDEX, () -> page.tells(5, 0));
        check.throwing("tells(0, -1)", Check.INDEX, () -> page.tells(0, -1));
        check.throwing("tells(0, MIN)", Check.INDEX, () -> page.tells(0, Integer.MIN_VALUE));
        check.due("tells(4, MAX)", 0, () -> page.tells(4, Integer.MAX_VALUE));
    }

    private static void promise16TellsTheLongestChain() {
        Springleaf page = new Springleaf();
        String due = "f0";
        for (int number = 1; number < 12; number++) {
            page.fold(number - 1, 8, -90);
            due = "f" + number + "*8-90 on " + due;
        }
        text(page, 11, due);
    }

    private static void text(Springleaf page, int fold, String due) {
        for (int place = 0; place <= due.length() + 1; place++) {
            int p = place;
            long want = p < due.length() ? due.charAt(p) : 0;
            check.due("tells(" + fold + ", " + p + ")", want, () -> page.tells(fold, p));
        }
    }
}
