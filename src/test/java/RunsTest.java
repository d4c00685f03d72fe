import java.util.Random;

/** All promises: long runs of calls, the same ones each time, on the class and on the Model of it. */
public final class RunsTest {
    private static final int RUNS = 600;
    private static final int CALLS = 512;
    private static final int TURNS = 2000;
    private static final int[] FAR = {Integer.MIN_VALUE, -1000, 1000, Integer.MAX_VALUE};

    private static final Check check = new Check();
    private static int boundPages = 0;
    private static int jams = 0;

    private final Random random;
    private final Springleaf page = new Springleaf();
    private final Model model = new Model();
    private int folds = 1;
    private int parts = 0;
    private int calls = 0;

    private RunsTest(int seed) {
        random = new Random(seed);
    }

    public static void main(String[] args) {
        for (int seed = 0; seed < RUNS; seed++) {
            RunsTest run = new RunsTest(seed);
            // A turn makes no call, one, or two; nothing is promised of a page behind its 512th.
            for (int turn = 0; turn < TURNS && run.calls + 2 <= CALLS; turn++) {
                run.callOnce();
            }
        }
        // Runs that never came to these would look at less than they seem to.
        check.due("runs come to bound pages", true, boundPages > 1000);
        check.due("runs come to pages that jam", true, jams > 1000);
        check.end();
    }

    private void callOnce() {
        switch (random.nextInt(15)) {
            case 0 -> makeFold();
            case 1 -> makePart();
            case 2 -> angles();
            case 3 -> where();
            case 4 -> meet();
            case 5 -> test();
            case 6 -> sheets();
            case 7 -> laid();
            case 8, 9 -> glue();
            case 10 -> unglue();
            case 11 -> glued();
            case 12 -> resize();
            case 13 -> bound();
            default -> tells();
        }
    }

    private void makeFold() {
        if (random.nextInt(4) != 0) {
            return;
        }
        int on = within(0, folds - 1);
        int pull = within(1, 8);
        int lean = within(-90, 90);
        String made = both("fold(" + on + ", " + pull + ", " + lean + ")",
                () -> page.fold(on, pull, lean), () -> model.fold(on, pull, lean));
        folds += isNumber(made) ? 1 : 0;
    }

    private void makePart() {
        if (random.nextInt(4) != 0) {
            return;
        }
        int fold = within(0, random.nextBoolean() ? 0 : folds - 1);
        int place = within(0, 60);
        int length = within(1, 30);
        int line = within(0, 20);
        int lines = within(1, 10);
        boolean eases = random.nextBoolean();
        String call = "part(" + fold + ", " + place + ", " + length + ", " + line + ", " + lines + ", " + eases + ")";
        String made = both(call, () -> page.part(fold, place, length, line, lines, eases),
                () -> model.part(fold, place, length, line, lines, eases));
        parts += isNumber(made) ? 1 : 0;
    }

    private void angles() {
        int fold = within(0, folds - 1);
        int open = within(0, 180);
        String call = "(" + fold + ", " + open + ")";
        both("angle" + call, () -> page.angle(fold, open), () -> model.angle(fold, open));
        both("angleAnew" + call, () -> page.angleAnew(fold, open), () -> model.angle(fold, open));
    }

    private void where() {
        int part = within(0, parts - 1);
        int open = within(0, 180);
        int what = within(0, 2);
        both("where(" + part + ", " + open + ", " + what + ")",
                () -> page.where(part, open, what), () -> model.where(part, open, what));
    }

    private void meet() {
        int part = within(0, parts - 1);
        int other = within(0, parts - 1);
        int open = within(0, 180);
        both("meet(" + part + ", " + other + ", " + open + ")",
                () -> page.meet(part, other, open) ? 1 : 0, () -> model.meet(part, other, open) ? 1 : 0);
    }

    private void test() {
        String told = both("test()", () -> page.test(), () -> model.test());
        jams += told.equals("-1") ? 0 : 1;
    }

    private void sheets() {
        both("sheets()", () -> page.sheets(), () -> model.sheets());
    }

    private void laid() {
        int part = within(0, parts - 1);
        int what = within(0, 2);
        both("laid(" + part + ", " + what + ")", () -> page.laid(part, what), () -> model.laid(part, what));
    }

    private void glue() {
        int part = within(0, parts - 1);
        both("glue(" + part + ")", () -> page.glue(part), () -> model.glue(part));
    }

    private void unglue() {
        if (random.nextInt(4) == 0) {
            both("unglue()", () -> page.unglue(), () -> model.unglue());
        }
    }

    private void glued() {
        int step = within(0, parts);
        both("glued(" + step + ")", () -> page.glued(step), () -> model.glued(step));
    }

    private void resize() {
        int part = within(0, parts - 1);
        int length = within(1, 30);
        if (random.nextInt(4) == 0) {
            both("resize(" + part + ", " + length + ")",
                    () -> page.resize(part, length), () -> model.resize(part, length));
        }
    }

    private void bound() {
        String told = both("isBound()", () -> page.isBound() ? 1 : 0, () -> model.isBound() ? 1 : 0);
        boundPages += told.equals("1") ? 1 : 0;
    }

    private void tells() {
        int fold = within(0, folds - 1);
        int place = within(0, 40);
        both("tells(" + fold + ", " + place + ")", () -> page.tells(fold, place), () -> model.tells(fold, place));
    }

    private String both(String call, Check.Call got, Check.Call want) {
        calls++;
        String due = Check.outcome(want);
        check.compare(call, due, Check.outcome(got));
        return due;
    }

    private static boolean isNumber(String outcome) {
        return !outcome.endsWith("Exception");
    }

    /** Mostly a number from least to most; now and then one just outside, or far off. */
    private int within(int least, int most) {
        int kind = random.nextInt(60);
        if (kind == 0) {
            return least - 1;
        }
        if (kind == 1) {
            return most + 1;
        }
        if (kind == 2) {
            return FAR[random.nextInt(FAR.length)];
        }
        return most < least ? least : least + random.nextInt(most - least + 1);
    }
}
