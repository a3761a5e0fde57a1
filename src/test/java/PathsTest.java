/** Promises 12 to 21: what is asked of a path, and changes along it. */
public final class PathsTest {
    private static final int NO_SUCH_VERTEX = -100000001, OUT_OF_RANGE = -100000002, NOT_CONNECTED = -100000004;
    private static final int VALUE_OVERFLOW = -100000005, NONE = -100000007, LIMIT = 1000000;
    private static final int MIN = Integer.MIN_VALUE, MAX = Integer.MAX_VALUE;

    public static void main(String[] args) {
        commonErrors();
        commonAncestor();
        distance();
        pathVertex();
        pathSum();
        pathMinimum();
        pathMaximum();
        reach();
        addOnPath();
        setOnPath();
        reverseValues();
        Expect.finish();
    }

    private static DynamicForest tree() {
        return Trees.seven(5, -2, 7, 1, 5, -2, 7);
    }

    private static DynamicForest chain() {
        return Trees.chain(64);
    }

    private static int ask(DynamicForest x, int promise, int u, int v, int number) {
        return switch (promise) {
            case 12 -> x.commonAncestor(u, v);
            case 13 -> x.distance(u, v);
            case 14 -> x.pathVertex(u, v, number);
            case 15 -> x.pathSum(u, v);
            case 16 -> x.pathMinimum(u, v);
            case 17 -> x.pathMaximum(u, v);
            case 18 -> x.reach(u, v, number);
            case 19 -> x.addOnPath(u, v, number);
            case 20 -> x.setOnPath(u, v, number);
            default -> x.reverseValues(u, v);
        };
    }

    /** The errors of commonAncestor come first, whatever the third number is. */
    private static void commonErrors() {
        DynamicForest x = tree();
        String before = Dump.of(x);
        for (int promise = 12; promise <= 21; promise++) {
            Expect.part("promise " + promise);
            for (int number : new int[] {0, 1, -1, LIMIT + 1, -LIMIT - 1, MIN, MAX}) {
                for (int none : new int[] {-1, 16, 64, MIN, MAX}) {
                    Expect.due(none + ", 0, " + number, ask(x, promise, none, 0, number), NO_SUCH_VERTEX);
                    Expect.due("0, " + none + ", " + number, ask(x, promise, 0, none, number), NO_SUCH_VERTEX);
                    Expect.due("twice " + none + ", " + number, ask(x, promise, none, none, number), NO_SUCH_VERTEX);
                }
                Expect.due("3, 7, " + number, ask(x, promise, 3, 7, number), NOT_CONNECTED);
                Expect.due("7, 3, " + number, ask(x, promise, 7, 3, number), NOT_CONNECTED);
                Expect.due("7, 8, " + number, ask(x, promise, 7, 8, number), NOT_CONNECTED);
            }
        }
        Expect.same("after failing calls", Dump.of(x), before);
    }

    private static void commonAncestor() {
        Expect.part("promise 12");
        DynamicForest x = tree();
        Expect.due("commonAncestor(3, 4)", x.commonAncestor(3, 4), 1);
        Expect.due("commonAncestor(3, 6)", x.commonAncestor(3, 6), 0);
        Expect.due("commonAncestor(6, 3)", x.commonAncestor(6, 3), 0);
        Expect.due("commonAncestor(6, 2)", x.commonAncestor(6, 2), 2);
        Expect.due("commonAncestor(2, 6)", x.commonAncestor(2, 6), 2);
        Expect.due("commonAncestor(4, 4)", x.commonAncestor(4, 4), 4);
        Expect.due("commonAncestor(9, 9)", x.commonAncestor(9, 9), 9);
        x.reroot(3);
        Expect.due("commonAncestor(4, 6) below 3", x.commonAncestor(4, 6), 1);
        Expect.due("commonAncestor(0, 1) below 3", x.commonAncestor(0, 1), 1);
    }

    private static void distance() {
        Expect.part("promise 13");
        DynamicForest x = tree();
        Expect.due("distance(3, 4)", x.distance(3, 4), 2);
        Expect.due("distance(3, 6)", x.distance(3, 6), 5);
        Expect.due("distance(6, 3)", x.distance(6, 3), 5);
        Expect.due("distance(0, 6)", x.distance(0, 6), 3);
        Expect.due("distance(5, 5)", x.distance(5, 5), 0);
        x.reroot(4);
        Expect.due("distance(3, 6) below 4", x.distance(3, 6), 5);
        Expect.due("distance(0, 63) of a chain", chain().distance(0, 63), 63);
    }

    private static void pathVertex() {
        Expect.part("promise 14");
        DynamicForest x = tree();
        int[] path = {4, 1, 0, 2, 5, 6};
        for (int i = 0; i < 6; i++) {
            Expect.due("pathVertex(4, 6, " + i + ")", x.pathVertex(4, 6, i), path[i]);
            Expect.due("pathVertex(6, 4, " + i + ")", x.pathVertex(6, 4, i), path[5 - i]);
        }
        for (int index : new int[] {-1, 6, 7, 63, 64, MIN, MAX}) {
            Expect.due("pathVertex(4, 6, " + index + ")", x.pathVertex(4, 6, index), NONE);
        }
        Expect.due("pathVertex(0, 6, 1)", x.pathVertex(0, 6, 1), 2);
        Expect.due("pathVertex(6, 0, 3)", x.pathVertex(6, 0, 3), 0);
        Expect.due("pathVertex(8, 8, 0)", x.pathVertex(8, 8, 0), 8);
        Expect.due("pathVertex(8, 8, 1)", x.pathVertex(8, 8, 1), NONE);
        Expect.due("pathVertex(63, 0, 63) of a chain", chain().pathVertex(63, 0, 63), 0);
        Expect.due("pathVertex(0, 63, 64) of a chain", chain().pathVertex(0, 63, 64), NONE);
    }

    private static void pathSum() {
        Expect.part("promise 15");
        DynamicForest x = tree();
        Expect.due("pathSum(3, 4)", x.pathSum(3, 4), 4);
        Expect.due("pathSum(3, 6)", x.pathSum(3, 6), 16);
        Expect.due("pathSum(1, 1)", x.pathSum(1, 1), -2);
        Expect.due("pathSum(9, 9)", x.pathSum(9, 9), 0);
        DynamicForest y = chain();
        y.setOnPath(0, 63, LIMIT);
        Expect.due("greatest sum", y.pathSum(63, 0), 64 * LIMIT);
        y.setOnPath(0, 63, -LIMIT);
        Expect.due("smallest sum", y.pathSum(63, 0), -64 * LIMIT);
    }

    private static void pathMinimum() {
        Expect.part("promise 16");
        DynamicForest x = tree();
        Expect.due("pathMinimum(3, 6)", x.pathMinimum(3, 6), 1);
        Expect.due("pathMinimum(6, 3)", x.pathMinimum(6, 3), 5);
        Expect.due("pathMinimum(3, 4)", x.pathMinimum(3, 4), 1);
        Expect.due("pathMinimum(2, 0)", x.pathMinimum(2, 0), 0);
        Expect.due("pathMinimum(8, 8)", x.pathMinimum(8, 8), 8);
        x.setOnPath(3, 6, 4);
        Expect.due("pathMinimum(3, 6), all the same", x.pathMinimum(3, 6), 3);
        Expect.due("pathMinimum(6, 3), all the same", x.pathMinimum(6, 3), 6);
        x.setValue(6, -LIMIT);
        Expect.due("pathMinimum(3, 6), the last", x.pathMinimum(3, 6), 6);
    }

    private static void pathMaximum() {
        Expect.part("promise 17");
        DynamicForest x = tree();
        Expect.due("pathMaximum(3, 6)", x.pathMaximum(3, 6), 2);
        Expect.due("pathMaximum(6, 3)", x.pathMaximum(6, 3), 6);
        Expect.due("pathMaximum(4, 0)", x.pathMaximum(4, 0), 4);
        Expect.due("pathMaximum(0, 4)", x.pathMaximum(0, 4), 0);
        Expect.due("pathMaximum(1, 5)", x.pathMaximum(1, 5), 2);
        Expect.due("pathMaximum(8, 8)", x.pathMaximum(8, 8), 8);
        x.setOnPath(3, 6, -4);
        Expect.due("pathMaximum(3, 6), all the same", x.pathMaximum(3, 6), 3);
        x.setValue(6, LIMIT);
        Expect.due("pathMaximum(3, 6), the last", x.pathMaximum(3, 6), 6);
    }

    private static void reach() {
        Expect.part("promise 18");
        DynamicForest x = tree();
        Expect.due("reach(3, 6, 1)", x.reach(3, 6, 1), 3);
        Expect.due("reach(3, 6, 2)", x.reach(3, 6, 2), 0);
        Expect.due("reach(3, 6, 4)", x.reach(3, 6, 4), 0);
        Expect.due("reach(3, 6, 5)", x.reach(3, 6, 5), 2);
        Expect.due("reach(3, 6, 11), before it falls", x.reach(3, 6, 11), 2);
        Expect.due("reach(3, 6, 12)", x.reach(3, 6, 12), 6);
        Expect.due("reach(3, 6, 16)", x.reach(3, 6, 16), 6);
        Expect.due("reach(3, 6, 17)", x.reach(3, 6, 17), NONE);
        Expect.due("reach(6, 3, 12)", x.reach(6, 3, 12), 2);
        Expect.due("reach(1, 0, -2)", x.reach(1, 0, -2), 1);
        Expect.due("reach(1, 0, -1)", x.reach(1, 0, -1), 0);
        Expect.due("reach(1, 0, least int)", x.reach(1, 0, MIN), 1);
        Expect.due("reach(3, 6, greatest int)", x.reach(3, 6, MAX), NONE);
        Expect.due("reach(8, 8, 0)", x.reach(8, 8, 0), 8);
        Expect.due("reach(8, 8, 1)", x.reach(8, 8, 1), NONE);
    }

    private static void addOnPath() {
        Expect.part("promise 19");
        DynamicForest x = tree();
        Expect.due("addOnPath(3, 6, 10)", x.addOnPath(3, 6, 10), 6);
        int[] values = {15, 8, 17, 11, 5, 8, 17};
        for (int v = 0; v < 7; v++) {
            Expect.due("value(" + v + ")", x.value(v), values[v]);
        }
        Expect.due("addOnPath(4, 4, 0)", x.addOnPath(4, 4, 0), 1);
        Expect.due("addOnPath(8, 8, 1000000)", x.addOnPath(8, 8, LIMIT), 1);
        Expect.due("addOnPath(9, 9, -1000000)", x.addOnPath(9, 9, -LIMIT), 1);
        Expect.due("addOnPath(9, 9, 1000000)", x.addOnPath(9, 9, LIMIT), 1);
        Expect.due("value(9)", x.value(9), 0);
        x.setValue(6, LIMIT);
        x.setValue(4, -LIMIT);
        String before = Dump.of(x);
        for (int delta : new int[] {LIMIT + 1, -LIMIT - 1, MIN, MAX}) {
            Expect.due("addOnPath(3, 6, " + delta + ")", x.addOnPath(3, 6, delta), OUT_OF_RANGE);
            Expect.due("addOnPath(8, 8, " + delta + ")", x.addOnPath(8, 8, delta), OUT_OF_RANGE);
        }
        Expect.due("addOnPath(3, 6, 1), the last is full", x.addOnPath(3, 6, 1), VALUE_OVERFLOW);
        Expect.due("addOnPath(6, 3, 1), the first is full", x.addOnPath(6, 3, 1), VALUE_OVERFLOW);
        Expect.due("addOnPath(0, 4, -1)", x.addOnPath(0, 4, -1), VALUE_OVERFLOW);
        Expect.due("addOnPath(0, 1, 1000000)", x.addOnPath(0, 1, LIMIT), VALUE_OVERFLOW);
        Expect.same("after failing calls", Dump.of(x), before);
        Expect.due("addOnPath(6, 6, -1000000)", x.addOnPath(6, 6, -LIMIT), 1);
        Expect.due("value(6)", x.value(6), 0);
    }

    private static void setOnPath() {
        Expect.part("promise 20");
        DynamicForest x = tree();
        Expect.due("setOnPath(3, 5, 9)", x.setOnPath(3, 5, 9), 5);
        int[] values = {9, 9, 9, 9, 5, 9, 7};
        for (int v = 0; v < 7; v++) {
            Expect.due("value(" + v + ")", x.value(v), values[v]);
        }
        Expect.due("setOnPath(4, 4, 1000000)", x.setOnPath(4, 4, LIMIT), 1);
        Expect.due("value(4)", x.value(4), LIMIT);
        Expect.due("setOnPath(4, 1, -1000000)", x.setOnPath(4, 1, -LIMIT), 2);
        Expect.due("value(1)", x.value(1), -LIMIT);
        String before = Dump.of(x);
        for (int value : new int[] {LIMIT + 1, -LIMIT - 1, MIN, MAX}) {
            Expect.due("setOnPath(3, 6, " + value + ")", x.setOnPath(3, 6, value), OUT_OF_RANGE);
        }
        Expect.same("after failing calls", Dump.of(x), before);
        Expect.due("setOnPath(0, 63, 3) of a chain", chain().setOnPath(0, 63, 3), 64);
    }

    private static void reverseValues() {
        Expect.part("promise 21");
        DynamicForest x = tree();
        x.setMark(4, true);
        Expect.due("reverseValues(4, 6)", x.reverseValues(4, 6), 6);
        int[] once = {7, -2, 5, 1, 7, -2, 5};
        for (int v = 0; v < 7; v++) {
            Expect.due("value(" + v + ")", x.value(v), once[v]);
        }
        Expect.due("reverseValues(5, 1)", x.reverseValues(5, 1), 4);
        Expect.due("reverseValues(3, 2)", x.reverseValues(3, 2), 4);
        int[] after = {-2, 5, 1, 7, 7, -2, 5};
        for (int v = 0; v < 7; v++) {
            Expect.due("value(" + v + ") after", x.value(v), after[v]);
        }
        Expect.due("reverseValues(1, 2), three vertices", x.reverseValues(1, 2), 3);
        Expect.due("value(1)", x.value(1), 1);
        Expect.due("value(0), the middle", x.value(0), -2);
        Expect.due("value(2)", x.value(2), 5);
        Expect.due("reverseValues(8, 8)", x.reverseValues(8, 8), 1);
        Expect.due("mark of 4", x.setMark(4, true), 1);
        Expect.due("mark of 6", x.setMark(6, true), 0);
    }
}
