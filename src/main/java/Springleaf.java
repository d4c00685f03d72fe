import java.util.ArrayList;

/** A page of a pop-up book; ../shared/DOC.md says what each call promises. */
public final class Springleaf {
    public static final int NONE = -1;

    private static final int MOST_FOLDS = 12;
    private static final int MOST_PARTS = 16;
    private static final int WIDE_OPEN = 180;
    private static final int UPRIGHT = 90;
    private static final int TESTER_STEP = 15;
    private static final int SHEET_WIDTH = 40;
    private static final int SHEET_HEIGHT = 30;

    private final Folds folds = new Folds();
    private final ArrayList<Part> parts = new ArrayList<Part>();
    private final Gluing gluing = new Gluing();
    private final Layout layout = new Layout();

    public Springleaf() {
    }

    public int fold(int on, int pull, int lean)
            throws IndexOutOfBoundsException, IllegalArgumentException, IllegalStateException {
        requireFold(on);
        if (isOutside(pull, 1, 8) || isOutside(lean, -90, 90)) {
            throw new IllegalArgumentException("pull is 1 to 8, lean -90 to 90");
        }
        if (folds.count >= MOST_FOLDS || isBound()) {
            throw new IllegalStateException("there are 12 folds, or the page is bound");
        }
        return folds.add(on, pull, lean);
    }

    public int part(int fold, int place, int length, int line, int lines, boolean eases)
            throws IndexOutOfBoundsException, IllegalArgumentException, IllegalStateException {
        requireFold(fold);
        if (isOutside(place, 0, 60) || isOutside(line, 0, 20) || isOutside(lines, 1, 10)) {
            throw new IllegalArgumentException("place is 0 to 60, line 0 to 20, lines 1 to 10");
        }
        requireLength(length);
        if (parts.size() >= MOST_PARTS || isBound()) {
            throw new IllegalStateException("there are 16 parts, or the page is bound");
        }
        parts.add(new Part(fold, place, length, line, lines, eases));
        return parts.size() - 1;
    }

    public int angle(int fold, int open) throws IndexOutOfBoundsException, IllegalArgumentException {
        requireFold(fold);
        requireOpen(open);
        return folds.anglesAt(open)[fold];
    }

    public int angleAnew(int fold, int open) throws IndexOutOfBoundsException, IllegalArgumentException {
        requireFold(fold);
        requireOpen(open);
        return folds.anglesByStepsTo(open)[fold];
    }

    public int where(int part, int open, int what) throws IndexOutOfBoundsException, IllegalArgumentException {
        requirePart(part);
        requireOpen(open);
        requireWhat(what);
        Part it = parts.get(part);
        int angle = folds.anglesAt(open)[it.fold];
        if (what == 0) {
            return it.rise(angle);
        }
        return what == 1 ? it.spanStart(angle) : it.spanEnd(angle);
    }

    public boolean meet(int part, int other, int open) throws IndexOutOfBoundsException, IllegalArgumentException {
        requirePart(part);
        requirePart(other);
        requireOpen(open);
        return part != other && doMeet(parts.get(part), parts.get(other), folds.anglesAt(open));
    }

    public int test() {
        // Closing passes the same angles again, so what jams is known once the page is open.
        for (int open = 0; open <= WIDE_OPEN; open += TESTER_STEP) {
            int part = firstThatMeetsAnother(open);
            if (part != NONE) {
                return 1000 * part + open;
            }
        }
        return NONE;
    }

    public int sheets() {
        layAllParts();
        return layout.sheetCount;
    }

    public int laid(int part, int what) throws IndexOutOfBoundsException, IllegalArgumentException {
        requirePart(part);
        requireWhat(what);
        layAllParts();
        if (what == 0) {
            return layout.partSheet[part];
        }
        return what == 1 ? layout.partLeft[part] : layout.partTop[part];
    }

    public int glue(int part) throws IndexOutOfBoundsException, IllegalStateException {
        requirePart(part);
        if (gluing.stepOf(part) != NONE) {
            throw new IllegalStateException("the part is glued");
        }
        Part it = parts.get(part);
        if (isStartCovered(it) || !hasHold(it)) {
            throw new IllegalStateException("the part cannot be glued");
        }
        return gluing.push(part);
    }

    public int unglue() throws IllegalStateException {
        if (gluing.count == 0) {
            throw new IllegalStateException("no part is glued");
        }
        int last = gluing.partAt(gluing.count - 1);
        gluing.cutTo(gluing.count - 1);
        return last;
    }

    public int glued(int step) throws IndexOutOfBoundsException {
        if (step < 0) {
            throw new IndexOutOfBoundsException("there is no such step");
        }
        return gluing.partAt(step);
    }

    public int resize(int part, int length) throws IndexOutOfBoundsException, IllegalArgumentException {
        requirePart(part);
        requireLength(length);
        parts.get(part).length = length;
        int step = gluing.stepOf(part);
        return step == NONE ? 0 : gluing.cutTo(step);
    }

    public boolean isBound() {
        return !parts.isEmpty() && gluing.count == parts.size() && test() == NONE;
    }

    public char tells(int fold, int place) throws IndexOutOfBoundsException {
        requireFold(fold);
        if (place < 0) {
            throw new IndexOutOfBoundsException("there is no such place");
        }
        return folds.signAt(fold, place);
    }

    private void requireFold(int fold) {
        if (isOutside(fold, 0, folds.count - 1)) {
            throw new IndexOutOfBoundsException("there is no such fold");
        }
    }

    private void requirePart(int part) {
        if (isOutside(part, 0, parts.size() - 1)) {
            throw new IndexOutOfBoundsException("there is no such part");
        }
    }

    private static void requireOpen(int open) {
        if (isOutside(open, 0, WIDE_OPEN)) {
            throw new IllegalArgumentException("open is 0 to 180");
        }
    }

    private static void requireWhat(int what) {
        if (isOutside(what, 0, 2)) {
            throw new IllegalArgumentException("what is 0 to 2");
        }
    }

    private static void requireLength(int length) {
        if (isOutside(length, 1, 30)) {
            throw new IllegalArgumentException("length is 1 to 30");
        }
    }

    private static boolean isOutside(int value, int least, int most) {
        return value < least || value > most;
    }

    private int firstThatMeetsAnother(int open) {
        int[] angles = folds.anglesAt(open);
        for (int part = 0; part < parts.size(); part++) {
            // Meeting goes both ways, so a part that meets an earlier one is not the first.
            for (int other = part + 1; other < parts.size(); other++) {
                if (doMeet(parts.get(part), parts.get(other), angles)) {
                    return part;
                }
            }
        }
        return NONE;
    }

    private static boolean doMeet(Part part, Part other, int[] angles) {
        int angle = angles[part.fold];
        int otherAngle = angles[other.fold];
        int rise = part.rise(angle);
        int otherRise = other.rise(otherAngle);
        return part.sharesLineWith(other)
                && part.spanStart(angle) <= other.spanEnd(otherAngle)
                && other.spanStart(otherAngle) <= part.spanEnd(angle)
                && rise > 0 && otherRise > 0
                && Math.abs(rise - otherRise) <= 1;
    }

    private void layAllParts() {
        layout.clear();
        for (int part = 0; part < parts.size(); part++) {
            Part it = parts.get(part);
            layout.lay(part, it.pieceWidth(), it.pieceHeight());
        }
    }

    private boolean isStartCovered(Part part) {
        int[] angles = folds.anglesAt(WIDE_OPEN);
        for (int step = 0; step < gluing.count; step++) {
            Part below = parts.get(gluing.partAt(step));
            int angle = angles[below.fold];
            if (below.sharesLineWith(part)
                    && below.spanStart(angle) <= part.place && part.place <= below.spanEnd(angle)) {
                return true;
            }
        }
        return false;
    }

    private boolean hasHold(Part part) {
        if (part.fold == 0) {
            return true;
        }
        int holder = folds.on[part.fold];
        for (int step = 0; step < gluing.count; step++) {
            if (parts.get(gluing.partAt(step)).fold == holder) {
                return true;
            }
        }
        return false;
    }

    /** The folds by numbers; each hangs on an earlier one, so one pass upwards finds all angles. */
    private static final class Folds {
        final int[] on = new int[MOST_FOLDS];
        final int[] pull = new int[MOST_FOLDS];
        final int[] lean = new int[MOST_FOLDS];
        int count = 1;
        // These are used again by each call, so that asking for angles or signs makes no objects.
        final int[] angles = new int[MOST_FOLDS];
        final int[] pulled = new int[MOST_FOLDS];
        final int[] growth = new int[MOST_FOLDS];
        final StringBuilder text = new StringBuilder();

        int add(int newOn, int newPull, int newLean) {
            on[count] = newOn;
            pull[count] = newPull;
            lean[count] = newLean;
            count++;
            return count - 1;
        }

        int[] anglesAt(int open) {
            angles[0] = open;
            for (int fold = 1; fold < count; fold++) {
                pulled[fold] = angles[on[fold]] * pull[fold];
                angles[fold] = angleOfPulled(fold);
            }
            return angles;
        }

        int[] anglesByStepsTo(int open) {
            anglesAt(0);
            for (int degree = 1; degree <= open; degree++) {
                openOneDegree();
            }
            return angles;
        }

        void openOneDegree() {
            growth[0] = 1;
            angles[0]++;
            for (int fold = 1; fold < count; fold++) {
                pulled[fold] += growth[on[fold]] * pull[fold];
                growth[fold] = angleOfPulled(fold) - angles[fold];
                angles[fold] += growth[fold];
            }
        }

        int angleOfPulled(int fold) {
            int angle = Math.floorDiv(pulled[fold], 4) + lean[fold];
            return Math.max(0, Math.min(WIDE_OPEN, angle));
        }

        char signAt(int fold, int place) {
            text.setLength(0);
            int teller = fold;
            for (int told = 0; told < MOST_FOLDS && teller > 0; told++) {
                writeHanging(teller);
                teller = on[teller];
            }
            text.append("f0");
            return place < text.length() ? text.charAt(place) : (char) 0;
        }

        void writeHanging(int fold) {
            text.append('f').append(fold);
            text.append('*').append(pull[fold]);
            text.append(lean[fold] < 0 ? '-' : '+').append(Math.abs(lean[fold]));
            text.append(" on ");
        }
    }

    /** A part; each angle that its methods take is that of its fold. */
    private static final class Part {
        final int fold;
        final int place;
        final int line;
        final int lines;
        final boolean eases;
        int length;

        Part(int fold, int place, int length, int line, int lines, boolean eases) {
            this.fold = fold;
            this.place = place;
            this.length = length;
            this.line = line;
            this.lines = lines;
            this.eases = eases;
        }

        int rise(int angle) {
            return length * Math.min(angle, WIDE_OPEN - angle) / 90;
        }

        int reach(int angle) {
            // Java's division rounds toward 0, as the document asks, also where a fold is past upright.
            return place + length * (UPRIGHT - angle) / 90;
        }

        int spanStart(int angle) {
            return Math.min(place, reach(angle));
        }

        int spanEnd(int angle) {
            return Math.max(place, reach(angle));
        }

        boolean sharesLineWith(Part other) {
            return line < other.line + other.lines && other.line < line + lines;
        }

        int pieceWidth() {
            return eases ? length : lines;
        }

        int pieceHeight() {
            return eases ? lines : length;
        }
    }

    /** The glued parts in the order of their gluing; none is glued twice, so a row of 16 holds all. */
    private static final class Gluing {
        final int[] order = new int[MOST_PARTS];
        int count;

        int push(int part) {
            order[count] = part;
            count++;
            return count;
        }

        int cutTo(int steps) {
            int dropped = count - steps;
            count = steps;
            return dropped;
        }

        int partAt(int step) {
            return step >= 0 && step < count ? order[step] : NONE;
        }

        int stepOf(int part) {
            for (int step = 0; step < count; step++) {
                if (order[step] == part) {
                    return step;
                }
            }
            return NONE;
        }
    }

    /** Parts on sheets; a part begins at most one shelf and one sheet, so rows of 16 hold all. */
    private static final class Layout {
        final int[] partSheet = new int[MOST_PARTS];
        final int[] partLeft = new int[MOST_PARTS];
        final int[] partTop = new int[MOST_PARTS];
        final int[] shelfSheet = new int[MOST_PARTS];
        final int[] shelfTop = new int[MOST_PARTS];
        final int[] shelfHeight = new int[MOST_PARTS];
        final int[] shelfFilled = new int[MOST_PARTS];
        final int[] sheetFilled = new int[MOST_PARTS];
        int shelfCount;
        int sheetCount;

        void clear() {
            shelfCount = 0;
            sheetCount = 0;
        }

        void lay(int part, int width, int height) {
            int shelf = firstShelfFor(width, height);
            if (shelf == NONE) {
                shelf = beginShelf(height);
            }
            partSheet[part] = shelfSheet[shelf];
            partLeft[part] = shelfFilled[shelf];
            partTop[part] = shelfTop[shelf];
            shelfFilled[shelf] += width;
        }

        int firstShelfFor(int width, int height) {
            // Shelves are kept as they were begun: an earlier sheet may have a later shelf.
            for (int sheet = 0; sheet < sheetCount; sheet++) {
                for (int shelf = 0; shelf < shelfCount; shelf++) {
                    if (shelfSheet[shelf] == sheet && shelfHeight[shelf] >= height
                            && SHEET_WIDTH - shelfFilled[shelf] >= width) {
                        return shelf;
                    }
                }
            }
            return NONE;
        }

        int beginShelf(int height) {
            int sheet = firstSheetFor(height);
            if (sheet == NONE) {
                sheet = beginSheet();
            }
            int shelf = shelfCount;
            shelfCount++;
            shelfSheet[shelf] = sheet;
            shelfTop[shelf] = sheetFilled[sheet];
            shelfHeight[shelf] = height;
            shelfFilled[shelf] = 0;
            sheetFilled[sheet] += height;
            return shelf;
        }

        int firstSheetFor(int height) {
            for (int sheet = 0; sheet < sheetCount; sheet++) {
                if (SHEET_HEIGHT - sheetFilled[sheet] >= height) {
                    return sheet;
                }
            }
            return NONE;
        }

        int beginSheet() {
            sheetFilled[sheetCount] = 0;
            sheetCount++;
            return sheetCount - 1;
        }
    }
}
