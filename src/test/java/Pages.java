/** Pages to begin a test with, and all that a page tells of itself. */
final class Pages {
    interface Maker {
        Springleaf make();
    }

    static final int MOST_FOLDS = 12;
    static final int MOST_PARTS = 16;

    private Pages() {
    }

    static Springleaf fresh() {
        return new Springleaf();
    }

    /** Three folds and three parts, the first part glued, the others not. */
    static Springleaf halfGlued() {
        Springleaf page = new Springleaf();
        page.fold(0, 2, 0);
        page.fold(1, 8, -20);
        page.part(0, 10, 9, 0, 3, true);
        page.part(1, 20, 18, 4, 2, false);
        page.part(2, 40, 30, 8, 10, true);
        page.glue(0);
        return page;
    }

    /** The same with all parts glued; none shares a line with another, so nothing jams. */
    static Springleaf bound() {
        Springleaf page = halfGlued();
        page.glue(1);
        page.glue(2);
        return page;
    }

    /** Two parts, both glued, that meet: both rise to 1 at 15 degrees, where their spans have 35 in common. */
    static Springleaf jammed() {
        Springleaf page = new Springleaf();
        page.part(0, 30, 6, 0, 5, true);
        page.part(0, 35, 6, 3, 5, true);
        page.glue(0);
        page.glue(1);
        return page;
    }

    /** 12 folds, each on the one before it. */
    static Springleaf fullOfFolds() {
        Springleaf page = new Springleaf();
        for (int on = 0; on < MOST_FOLDS - 1; on++) {
            page.fold(on, 4, 0);
        }
        return page;
    }

    /** 16 parts, each with a line of its own. */
    static Springleaf fullOfParts() {
        Springleaf page = new Springleaf();
        addMostParts(page);
        return page;
    }

    static Springleaf fullOfBoth() {
        Springleaf page = fullOfFolds();
        addMostParts(page);
        return page;
    }

    static Springleaf fullAndBound() {
        Springleaf page = fullOfBoth();
        for (int part = 0; part < MOST_PARTS; part++) {
            page.glue(part);
        }
        return page;
    }

    private static void addMostParts(Springleaf page) {
        for (int part = 0; part < MOST_PARTS; part++) {
            page.part(0, part, 5, part, 1, true);
        }
    }

    /** What a page tells of itself, in some 250 calls at most, since nothing is promised behind its 512th. */
    static String state(Springleaf page) {
        int folds = folds(page);
        int parts = parts(page);
        StringBuilder told = new StringBuilder(folds + " folds, " + parts + " parts, glued");
        for (int step = 0; step <= parts; step++) {
            told.append(' ').append(page.glued(step));
        }
        told.append(", test ").append(page.test()).append(", sheets ").append(page.sheets());
        told.append(", bound ").append(page.isBound());
        for (int fold = 0; fold < folds; fold++) {
            tellFold(page, fold, told.append("; fold"));
        }
        for (int part = 0; part < parts; part++) {
            tellPart(page, part, told.append("; part"));
        }
        for (int part = 1; part < parts; part++) {
            told.append(", ").append(page.meet(part - 1, part, 90));
        }
        return told.toString();
    }

    private static int folds(Springleaf page) {
        for (int fold = 0; fold <= MOST_FOLDS; fold++) {
            int asked = fold;
            if (Check.outcome(() -> page.angle(asked, 0)).startsWith(Check.INDEX)) {
                return fold;
            }
        }
        return MOST_FOLDS + 1;
    }

    private static int parts(Springleaf page) {
        for (int part = 0; part <= MOST_PARTS; part++) {
            int asked = part;
            if (Check.outcome(() -> page.where(asked, 0, 0)).startsWith(Check.INDEX)) {
                return part;
            }
        }
        return MOST_PARTS + 1;
    }

    private static void tellFold(Springleaf page, int fold, StringBuilder told) {
        told.append(' ').append(page.angle(fold, 0)).append(' ').append(page.angleAnew(fold, 120)).append(' ');
        // A sign behind the last one is a 0, which is told as a space.
        for (int place = 2; place < 8; place++) {
            told.append((char) Math.max(' ', page.tells(fold, place)));
        }
    }

    private static void tellPart(Springleaf page, int part, StringBuilder told) {
        told.append(' ').append(page.where(part, 0, 1)).append(' ').append(page.where(part, 0, 2));
        told.append(' ').append(page.where(part, 90, 0));
        for (int what = 0; what <= 2; what++) {
            told.append(' ').append(page.laid(part, what));
        }
    }
}
