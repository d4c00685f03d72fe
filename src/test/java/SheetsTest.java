/** Promises 9 and 10: sheets, laid. */
public final class SheetsTest {
    private static final Check check = new Check();

    public static void main(String[] args) {
        promise10GrainTurnsThePiece();
        promise10WidthLeft();
        promise10FirstShelfHighEnough();
        promise09HeightLeft();
        promise10EarlierSheetsGoFirst();
        promise10ShelvesGoBeforeNewOnes();
        promise09SheetsFollowLengths();
        promise09MostSheets();
        promise09MostShelves();
        promise10Throws();
        check.end();
    }

    private static void promise10GrainTurnsThePiece() {
        Springleaf page = new Springleaf();
        check.due("sheets() without parts", 0, () -> page.sheets());
        page.part(0, 0, 30, 0, 4, true);
        page.part(0, 0, 30, 0, 4, false);
        // 30 wide and 4 high; then 4 wide and 30 high, which needs a sheet of its own.
        laid(page, 0, 0, 0, 0);
        laid(page, 1, 1, 0, 0);
        page.part(0, 0, 4, 0, 10, false);
        laid(page, 2, 0, 30, 0);
        page.part(0, 0, 1, 0, 1, true);
        laid(page, 3, 1, 4, 0);
        check.due("sheets()", 2, () -> page.sheets());
    }

    private static void promise10WidthLeft() {
        Springleaf page = new Springleaf();
        page.part(0, 0, 20, 0, 2, true);
        page.part(0, 0, 20, 0, 2, true);
        page.part(0, 0, 1, 0, 2, true);
        laid(page, 0, 0, 0, 0);
        laid(page, 1, 0, 20, 0);
        laid(page, 2, 0, 0, 2);
        page.part(0, 0, 30, 0, 2, true);
        page.part(0, 0, 10, 0, 2, true);
        page.part(0, 0, 9, 0, 2, true);
        laid(page, 3, 0, 1, 2);
        laid(page, 4, 0, 0, 4);
        laid(page, 5, 0, 31, 2);
    }

    private static void promise10FirstShelfHighEnough() {
        Springleaf page = new Springleaf();
        page.part(0, 0, 5, 0, 3, true);
        page.part(0, 0, 5, 0, 5, true);
        page.part(0, 0, 5, 0, 4, true);
        page.part(0, 0, 5, 0, 3, true);
        page.part(0, 0, 5, 0, 1, true);
        page.part(0, 0, 5, 0, 6, true);
        laid(page, 0, 0, 0, 0);
        laid(page, 1, 0, 0, 3);
        laid(page, 2, 0, 5, 3);
        laid(page, 3, 0, 5, 0);
        laid(page, 4, 0, 10, 0);
        laid(page, 5, 0, 0, 8);
        check.due("sheets()", 1, () -> page.sheets());
    }

    private static void promise09HeightLeft() {
        Springleaf page = new Springleaf();
        page.part(0, 0, 30, 0, 10, true);
        page.part(0, 0, 30, 0, 10, true);
        page.part(0, 0, 30, 0, 10, true);
        laid(page, 2, 0, 0, 20);
        check.due("sheets() of a full height", 1, () -> page.sheets());
        page.part(0, 0, 11, 0, 1, true);
        laid(page, 3, 1, 0, 0);
        check.due("sheets() beyond it", 2, () -> page.sheets());
    }

    private static void promise10EarlierSheetsGoFirst() {
        Springleaf page = new Springleaf();
        page.part(0, 0, 20, 0, 10, false);
        page.part(0, 0, 30, 0, 1, false);
        page.part(0, 0, 10, 0, 10, true);
        page.part(0, 0, 30, 0, 9, true);
        page.part(0, 0, 30, 0, 2, true);
        // Part 3 goes beside part 1; part 4 finds no shelf so wide, and sheet 0 has 10 left.
        laid(page, 0, 0, 0, 0);
        laid(page, 1, 1, 0, 0);
        laid(page, 2, 0, 10, 0);
        laid(page, 3, 1, 1, 0);
        laid(page, 4, 0, 0, 20);
        page.part(0, 0, 9, 0, 2, true);
        laid(page, 5, 0, 20, 0);
    }

    private static void promise10ShelvesGoBeforeNewOnes() {
        Springleaf page = new Springleaf();
        page.part(0, 0, 5, 0, 10, true);
        page.part(0, 0, 30, 0, 1, false);
        page.part(0, 0, 11, 0, 1, false);
        // 11 high: no shelf of sheet 0 is so high, one of sheet 1 is, and goes before 20 left on sheet 0.
        laid(page, 2, 1, 1, 0);
        page.part(0, 0, 30, 0, 10, true);
        page.part(0, 0, 10, 0, 10, true);
        laid(page, 3, 0, 5, 0);
        laid(page, 4, 1, 2, 0);
        page.part(0, 0, 29, 0, 10, true);
        page.part(0, 0, 12, 0, 10, true);
        // A later shelf of sheet 0 goes before the first one of sheet 1.
        laid(page, 5, 0, 0, 10);
        laid(page, 6, 1, 12, 0);
        page.part(0, 0, 11, 0, 10, true);
        laid(page, 7, 0, 29, 10);
    }

    private static void promise09SheetsFollowLengths() {
        Springleaf page = new Springleaf();
        page.part(0, 0, 16, 0, 10, false);
        page.part(0, 0, 30, 0, 10, true);
        page.part(0, 0, 11, 0, 10, true);
        page.glue(0);
        laid(page, 2, 0, 0, 16);
        page.resize(0, 30);
        laid(page, 2, 1, 0, 0);
        check.due("sheets() of a longer part", 2, () -> page.sheets());
        page.resize(0, 10);
        laid(page, 2, 0, 0, 10);
        check.due("sheets() of a shorter part", 1, () -> page.sheets());
    }

    private static void promise09MostSheets() {
        Springleaf page = new Springleaf();
        for (int number = 0; number < 16; number++) {
            page.part(0, 0, 30, 0, 10, false);
        }
        check.due("sheets() of 16 parts", 4, () -> page.sheets());
        laid(page, 3, 0, 30, 0);
        laid(page, 4, 1, 0, 0);
        laid(page, 15, 3, 30, 0);
    }

    private static void promise09MostShelves() {
        Springleaf page = new Springleaf();
        for (int number = 0; number < 16; number++) {
            page.part(0, 0, 30, 0, 10, true);
        }
        check.due("sheets() of 16 shelves", 6, () -> page.sheets());
        laid(page, 2, 0, 0, 20);
        laid(page, 3, 1, 0, 0);
        laid(page, 15, 5, 0, 0);
        check.due("sheets() anew", 6, () -> page.sheets());
    }

    private static void promise10Throws() {
        Springleaf page = new Springleaf();
        page.part(0, 0, 30, 0, 10, false);
        check.throwing("laid(1, 3)", Check.INDEX, () -> page.laid(1, 3));
        check.throwing("laid(-1, 0)", Check.INDEX, () -> page.laid(-1, 0));
        check.throwing("laid(0, 3)", Check.ARGUMENT, () -> page.laid(0, 3));
        check.throwing("laid(0, -1)", Check.ARGUMENT, () -> page.laid(0, -1));
    }

    private static void laid(Springleaf page, int part, int sheet, int left, int top) {
        String call = "laid(" + part + ", ";
        check.due(call + "0)", sheet, () -> page.laid(part, 0));
        check.due(call + "1)", left, () -> page.laid(part, 1));
        check.due(call + "2)", top, () -> page.laid(part, 2));
    }
}
