import java.util.ArrayList;

/** A page of a pop-up book; ../shared/DOC.md says what each call promises. */
public final class Springleaf {
    public static final int NONE = -1;

    private static final int MOST_FOLDS = 12;
    private static final int MOST_PARTS = 16;
    private static final int WIDE_OPEN = 180;
    private static final int UPRIGHT = 90;
    private static final int TESTER_STEP = 15;
    private static final int SHEET_WIDTH = 40;
    private static final int SHEET_HEIGHT = 30;

    private final ArrayList<Fold> folds = new ArrayList<Fold>();
    private final ArrayList<Part> parts = new ArrayList<Part>();
    // Kept, so that asking for one sign after another makes no texts.
    private final StringBuilder told = new StringBuilder();
    private int gluedCount;
    private int sheetCount;

    public Springleaf() {
        folds.add(new Fold(0, null, 0, 0));
    }

    public int fold(int on, int pull, int lean)
            throws IndexOutOfBoundsException, IllegalArgumentException, IllegalStateException {
        requireFold(on);
        if (isOutside(pull, 1, 8) || isOutside(lean, -90, 90)) {
            throw new IllegalArgumentException("pull is 1 to 8, lean -90 to 90");
        }
        if (folds.size() >= MOST_FOLDS || isBound()) {
            throw new IllegalStateException("there are 12 folds, or the page is bound");
        }
        folds.add(new Fold(folds.size(), folds.get(on), pull, lean));
        return folds.size() - 1;
    }

    public int part(int fold, int place, int length, int line, int lines, boolean eases)
            throws IndexOutOfBoundsException, IllegalArgumentException, IllegalStateException {
        requireFold(fold);
        if (isOutside(place, 0, 60) || isOutside(line, 0, 20) || isOutside(lines, 1, 10)) {
            throw new IllegalArgumentException("place is 0 to 60, line 0 to 20, lines 1 to 10");
        }
        requireLength(length);
        if (parts.size() >= MOST_PARTS || isBound()) {
            throw new IllegalStateException("there are 16 parts, or the page is bound");
        }
        parts.add(new Part(folds.get(fold), place, length, line, lines, eases));
        return parts.size() - 1;
    }

    public int angle(int fold, int open) throws IndexOutOfBoundsException, IllegalArgumentException {
        requireFold(fold);
        requireOpen(open);
        openTo(open);
        return folds.get(fold).angle;
    }

    public int angleAnew(int fold, int open) throws IndexOutOfBoundsException, IllegalArgumentException {
        requireFold(fold);
        requireOpen(open);
        openByDegreesTo(open);
        return folds.get(fold).angle;
    }

    public int where(int part, int open, int what) throws IndexOutOfBoundsException, IllegalArgumentException {
        requirePart(part);
        requireOpen(open);
        requireWhat(what);
        openTo(open);
        Part it = parts.get(part);
        if (what == 0) {
            return it.rise();
        }
        return what == 1 ? it.spanStart() : it.spanEnd();
    }

    public boolean meet(int part, int other, int open) throws IndexOutOfBoundsException, IllegalArgumentException {
        requirePart(part);
        requirePart(other);
        requireOpen(open);
        openTo(open);
        return part != other && parts.get(part).meets(parts.get(other));
    }

    public int test() {
        // Closing passes the same angles again, so what jams is known once the page is open.
        for (int open = 0; open <= WIDE_OPEN; open += TESTER_STEP) {
            openTo(open);
            int part = firstThatMeetsAnother();
            if (part != NONE) {
                return 1000 * part + open;
            }
        }
        return NONE;
    }

    public int sheets() {
        layAllParts();
        return sheetCount;
    }

    public int laid(int part, int what) throws IndexOutOfBoundsException, IllegalArgumentException {
        requirePart(part);
        requireWhat(what);
        layAllParts();
        Part it = parts.get(part);
        if (what == 0) {
            return it.sheet;
        }
        return what == 1 ? it.left : it.top;
    }

    public int glue(int part) throws IndexOutOfBoundsException, IllegalStateException {
        requirePart(part);
        Part it = parts.get(part);
        if (it.isGlued()) {
            throw new IllegalStateException("the part is glued");
        }
        if (isStartCovered(it) || !hasHold(it)) {
            throw new IllegalStateException("the part cannot be glued");
        }
        it.step = gluedCount;
        gluedCount++;
        return gluedCount;
    }

    public int unglue() throws IllegalStateException {
        if (gluedCount == 0) {
            throw new IllegalStateException("no part is glued");
        }
        int last = partGluedAt(gluedCount - 1);
        unglueFrom(gluedCount - 1);
        return last;
    }

    public int glued(int step) throws IndexOutOfBoundsException {
        if (step < 0) {
            throw new IndexOutOfBoundsException("there is no such step");
        }
        return partGluedAt(step);
    }

    public int resize(int part, int length) throws IndexOutOfBoundsException, IllegalArgumentException {
        requirePart(part);
        requireLength(length);
        Part it = parts.get(part);
        it.length = length;
        return it.isGlued() ? unglueFrom(it.step) : 0;
    }

    public boolean isBound() {
        return !parts.isEmpty() && gluedCount == parts.size() && test() == NONE;
    }

    public char tells(int fold, int place) throws IndexOutOfBoundsException {
        requireFold(fold);
        if (place < 0) {
            throw new IndexOutOfBoundsException("there is no such place");
        }
        tellAll(folds.get(fold));
        return place < told.length() ? told.charAt(place) : (char) 0;
    }

    private void requireFold(int fold) {
        if (isOutside(fold, 0, folds.size() - 1)) {
            throw new IndexOutOfBoundsException("there is no such fold");
        }
    }

    private void requirePart(int part) {
        if (isOutside(part, 0, parts.size() - 1)) {
            throw new IndexOutOfBoundsException("there is no such part");
        }
    }

    private static void requireOpen(int open) {
        if (isOutside(open, 0, WIDE_OPEN)) {
            throw new IllegalArgumentException("open is 0 to 180");
        }
    }

    private static void requireWhat(int what) {
        if (isOutside(what, 0, 2)) {
            throw new IllegalArgumentException("what is 0 to 2");
        }
    }

    private static void requireLength(int length) {
        if (isOutside(length, 1, 30)) {
            throw new IllegalArgumentException("length is 1 to 30");
        }
    }

    private static boolean isOutside(int value, int least, int most) {
        return value < least || value > most;
    }

    private void openTo(int open) {
        // A fold hangs on an earlier one, whose angle is found by then.
        for (int fold = 0; fold < folds.size(); fold++) {
            folds.get(fold).openTo(open);
        }
    }

    private void openByDegreesTo(int open) {
        openTo(0);
        for (int degree = 1; degree <= open; degree++) {
            for (int fold = 0; fold < folds.size(); fold++) {
                folds.get(fold).openOneDegree();
            }
        }
    }

    private void tellAll(Fold fold) {
        told.setLength(0);
        for (Fold teller = fold; teller != null; teller = teller.on) {
            teller.tellTo(told);
        }
    }

    private int firstThatMeetsAnother() {
        for (int part = 0; part < parts.size(); part++) {
            // Meeting goes both ways, so a part that meets an earlier one is not the first.
            for (int other = part + 1; other < parts.size(); other++) {
                if (parts.get(part).meets(parts.get(other))) {
                    return part;
                }
            }
        }
        return NONE;
    }

    private boolean isStartCovered(Part part) {
        openTo(WIDE_OPEN);
        for (int other = 0; other < parts.size(); other++) {
            if (parts.get(other).isGlued() && parts.get(other).coversStartOf(part)) {
                return true;
            }
        }
        return false;
    }

    private boolean hasHold(Part part) {
        if (part.fold.on == null) {
            return true;
        }
        for (int other = 0; other < parts.size(); other++) {
            if (parts.get(other).isGlued() && parts.get(other).fold == part.fold.on) {
                return true;
            }
        }
        return false;
    }

    private int partGluedAt(int step) {
        for (int part = 0; part < parts.size(); part++) {
            if (parts.get(part).step == step) {
                return part;
            }
        }
        return NONE;
    }

    private int unglueFrom(int step) {
        for (int part = 0; part < parts.size(); part++) {
            if (parts.get(part).step >= step) {
                parts.get(part).step = NONE;
            }
        }
        int unglued = gluedCount - step;
        gluedCount = step;
        return unglued;
    }

    private void layAllParts() {
        sheetCount = 0;
        for (int part = 0; part < parts.size(); part++) {
            parts.get(part).shelfHeight = 0;
        }
        for (int part = 0; part < parts.size(); part++) {
            lay(parts.get(part));
        }
    }

    private void lay(Part part) {
        Part first = firstOfShelfFor(part);
        if (first == null) {
            beginShelf(part);
            first = part;
        }
        part.sheet = first.sheet;
        part.left = first.shelfFilled;
        part.top = first.top;
        first.shelfFilled += part.pieceWidth();
    }

    private Part firstOfShelfFor(Part part) {
        // Parts keep the order in which shelves were begun: an earlier sheet may have a later shelf.
        for (int sheet = 0; sheet < sheetCount; sheet++) {
            for (int other = 0; other < parts.size(); other++) {
                Part first = parts.get(other);
                if (first.sheet == sheet && first.shelfHeight >= part.pieceHeight()
                        && SHEET_WIDTH - first.shelfFilled >= part.pieceWidth()) {
                    return first;
                }
            }
        }
        return null;
    }

    private void beginShelf(Part part) {
        part.sheet = sheetForShelf(part.pieceHeight());
        part.top = filledHeight(part.sheet);
        part.shelfHeight = part.pieceHeight();
        part.shelfFilled = 0;
    }

    private int sheetForShelf(int height) {
        for (int sheet = 0; sheet < sheetCount; sheet++) {
            if (SHEET_HEIGHT - filledHeight(sheet) >= height) {
                return sheet;
            }
        }
        sheetCount++;
        return sheetCount - 1;
    }

    private int filledHeight(int sheet) {
        int filled = 0;
        for (int part = 0; part < parts.size(); part++) {
            if (parts.get(part).sheet == sheet) {
                filled += parts.get(part).shelfHeight;
            }
        }
        return filled;
    }

    /** A fold. Each call that needs angles opens the page anew first, so none relies on what another one left here. */
    private static final class Fold {
        final int number;
        // The fold on which it hangs, null for fold 0.
        final Fold on;
        final int pull;
        final int lean;
        int angle;
        int pulled;
        int growth;

        Fold(int number, Fold on, int pull, int lean) {
            this.number = number;
            this.on = on;
            this.pull = pull;
            this.lean = lean;
        }

        void openTo(int open) {
            if (on == null) {
                angle = open;
            } else {
                pulled = on.angle * pull;
                angle = angleOfPulled();
            }
        }

        void openOneDegree() {
            int before = angle;
            if (on == null) {
                angle++;
            } else {
                pulled += on.growth * pull;
                angle = angleOfPulled();
            }
            growth = angle - before;
        }

        int angleOfPulled() {
            return Math.max(0, Math.min(WIDE_OPEN, Math.floorDiv(pulled, 4) + lean));
        }

        void tellTo(StringBuilder text) {
            text.append('f').append(number);
            if (on != null) {
                text.append('*').append(pull);
                text.append(lean < 0 ? '-' : '+').append(Math.abs(lean));
                text.append(" on ");
            }
        }
    }

    /** A part; what it rises to and its span are those at the angle that its fold has now. */
    private static final class Part {
        final Fold fold;
        final int place;
        final int line;
        final int lines;
        final boolean eases;
        int length;
        // Which one it was in the order of gluing, NONE while it is not glued.
        int step = NONE;
        int sheet;
        int left;
        int top;
        // Of the shelf that it began; the height is 0 if it began none.
        int shelfHeight;
        int shelfFilled;

        Part(Fold fold, int place, int length, int line, int lines, boolean eases) {
            this.fold = fold;
            this.place = place;
            this.length = length;
            this.line = line;
            this.lines = lines;
            this.eases = eases;
        }

        boolean isGlued() {
            return step != NONE;
        }

        int rise() {
            return length * Math.min(fold.angle, WIDE_OPEN - fold.angle) / 90;
        }

        int reach() {
            // Java's division rounds toward 0, as the document asks, also where a fold is past upright.
            return place + length * (UPRIGHT - fold.angle) / 90;
        }

        int spanStart() {
            return Math.min(place, reach());
        }

        int spanEnd() {
            return Math.max(place, reach());
        }

        boolean sharesLineWith(Part other) {
            return line < other.line + other.lines && other.line < line + lines;
        }

        boolean meets(Part other) {
            return sharesLineWith(other)
                    && spanStart() <= other.spanEnd() && other.spanStart() <= spanEnd()
                    && rise() > 0 && other.rise() > 0
                    && Math.abs(rise() - other.rise()) <= 1;
        }

        boolean coversStartOf(Part other) {
            return sharesLineWith(other) && spanStart() <= other.place && other.place <= spanEnd();
        }

        int pieceWidth() {
            return eases ? length : lines;
        }

        int pieceHeight() {
            return eases ? lines : length;
        }
    }
}
