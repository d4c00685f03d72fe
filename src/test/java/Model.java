import java.util.ArrayList;
import java.util.List;

/** A second reading of the document, as slow and as plain as can be, to hold the class against. */
final class Model {
    record Fold(int on, int pull, int lean) { }

    record Part(int fold, int place, int length, int line, int lines, boolean eases) { }

    record Shelf(int top, int high, List<Integer> widths) {
        int used() {
            return widths.stream().mapToInt(w -> w).sum();
        }
    }

    private final List<Fold> folds = new ArrayList<>(List.of(new Fold(-1, 0, 0)));
    private final List<Part> parts = new ArrayList<>();
    private final List<Integer> glued = new ArrayList<>();

    int fold(int on, int pull, int lean) {
        index(on, folds.size());
        argument(pull, 1, 8);
        argument(lean, -90, 90);
        state(folds.size() < 12 && !isBound());
        folds.add(new Fold(on, pull, lean));
        return folds.size() - 1;
    }

    int part(int fold, int place, int length, int line, int lines, boolean eases) {
        index(fold, folds.size());
        argument(place, 0, 60);
        argument(length, 1, 30);
        argument(line, 0, 20);
        argument(lines, 1, 10);
        state(parts.size() < 16 && !isBound());
        parts.add(new Part(fold, place, length, line, lines, eases));
        return parts.size() - 1;
    }

    int angle(int fold, int open) {
        index(fold, folds.size());
        argument(open, 0, 180);
        if (fold == 0) {
            return open;
        }
        Fold it = folds.get(fold);
        int angle = (int) Math.floor(angle(it.on(), open) * it.pull() / 4.0) + it.lean();
        return angle < 0 ? 0 : angle > 180 ? 180 : angle;
    }

    int where(int part, int open, int what) {
        index(part, parts.size());
        argument(open, 0, 180);
        argument(what, 0, 2);
        Part it = parts.get(part);
        int g = angle(it.fold(), open);
        if (what == 0) {
            return (int) Math.floor(it.length() * Math.min(g, 180 - g) / 90.0);
        }
        double far = it.length() * (90 - g) / 90.0;
        int end = it.place() + (int) (far < 0 ? Math.ceil(far) : Math.floor(far));
        return (what == 1) == (end < it.place()) ? end : it.place();
    }

    boolean meet(int part, int other, int open) {
        index(part, parts.size());
        index(other, parts.size());
        argument(open, 0, 180);
        int rise = where(part, open, 0);
        int otherRise = where(other, open, 0);
        return part != other && bandsShare(part, other) && spansShare(part, other, open)
                && rise > 0 && otherRise > 0 && Math.abs(rise - otherRise) <= 1;
    }

    int test() {
        for (int open = 0; open <= 180; open += 15) {
            for (int part = 0; part < parts.size(); part++) {
                for (int other = 0; other < parts.size(); other++) {
                    if (meet(part, other, open)) {
                        return 1000 * part + open;
                    }
                }
            }
        }
        return -1;
    }

    int sheets() {
        return places()[parts.size()][0];
    }

    int laid(int part, int what) {
        index(part, parts.size());
        argument(what, 0, 2);
        return places()[part][what];
    }

    int glue(int part) {
        index(part, parts.size());
        state(!glued.contains(part));
        Part it = parts.get(part);
        boolean hold = it.fold() == 0;
        for (int below : glued) {
            state(!(bandsShare(below, part)
                    && where(below, 180, 1) <= it.place() && it.place() <= where(below, 180, 2)));
            hold |= it.fold() != 0 && parts.get(below).fold() == folds.get(it.fold()).on();
        }
        state(hold);
        glued.add(part);
        return glued.size();
    }

    int unglue() {
        state(!glued.isEmpty());
        return glued.remove(glued.size() - 1);
    }

    int glued(int step) {
        notBelow0(step);
        return step < glued.size() ? glued.get(step) : -1;
    }

    int resize(int part, int length) {
        index(part, parts.size());
        argument(length, 1, 30);
        Part was = parts.get(part);
        parts.set(part, new Part(was.fold(), was.place(), length, was.line(), was.lines(), was.eases()));
        int unglued = 0;
        while (glued.contains(part)) {
            unglue();
            unglued++;
        }
        return unglued;
    }

    boolean isBound() {
        return parts.size() > 0 && glued.size() == parts.size() && test() == -1;
    }

    char tells(int fold, int place) {
        index(fold, folds.size());
        notBelow0(place);
        String text = text(fold);
        return place < text.length() ? text.charAt(place) : 0;
    }

    private String text(int fold) {
        Fold it = folds.get(fold);
        return fold == 0 ? "f0" : "f" + fold + "*" + it.pull() + (it.lean() < 0 ? "-" : "+")
                + Math.abs(it.lean()) + " on " + text(it.on());
    }

    private boolean bandsShare(int part, int other) {
        for (int line = 0; line < 40; line++) {
            if (hasLine(part, line) && hasLine(other, line)) {
                return true;
            }
        }
        return false;
    }

    private boolean hasLine(int part, int line) {
        Part it = parts.get(part);
        return line >= it.line() && line < it.line() + it.lines();
    }

    private boolean spansShare(int part, int other, int open) {
        for (int place = -40; place <= 100; place++) {
            if (spanHas(part, place, open) && spanHas(other, place, open)) {
                return true;
            }
        }
        return false;
    }

    private boolean spanHas(int part, int place, int open) {
        return where(part, open, 1) <= place && place <= where(part, open, 2);
    }

    /** A row of sheet, left and top for each part, and last a row that begins with how many sheets there are. */
    private int[][] places() {
        List<List<Shelf>> sheets = new ArrayList<>();
        int[][] places = new int[parts.size() + 1][];
        for (int part = 0; part < parts.size(); part++) {
            Part it = parts.get(part);
            int wide = it.eases() ? it.length() : it.lines();
            int high = it.eases() ? it.lines() : it.length();
            places[part] = onShelf(sheets, wide, high);
            if (places[part] == null) {
                beginShelf(sheets, high);
                places[part] = onShelf(sheets, wide, high);
            }
        }
        places[parts.size()] = new int[] {sheets.size()};
        return places;
    }

    private static int[] onShelf(List<List<Shelf>> sheets, int wide, int high) {
        for (int sheet = 0; sheet < sheets.size(); sheet++) {
            for (Shelf shelf : sheets.get(sheet)) {
                if (shelf.high() >= high && shelf.used() + wide <= 40) {
                    int[] place = {sheet, shelf.used(), shelf.top()};
                    shelf.widths().add(wide);
                    return place;
                }
            }
        }
        return null;
    }

    private static void beginShelf(List<List<Shelf>> sheets, int high) {
        for (List<Shelf> sheet : sheets) {
            int top = sheet.stream().mapToInt(Shelf::high).sum();
            if (top + high <= 30) {
                sheet.add(new Shelf(top, high, new ArrayList<>()));
                return;
            }
        }
        sheets.add(new ArrayList<>(List.of(new Shelf(0, high, new ArrayList<>()))));
    }

    private static void index(int number, int many) {
        if (number < 0 || number >= many) {
            throw new IndexOutOfBoundsException();
        }
    }

    private static void notBelow0(int number) {
        if (number < 0) {
            throw new IndexOutOfBoundsException();
        }
    }

    private static void argument(int value, int least, int most) {
        if (value < least || value > most) {
            throw new IllegalArgumentException();
        }
    }

    private static void state(boolean holds) {
        if (!holds) {
            throw new IllegalStateException();
        }
    }
}
