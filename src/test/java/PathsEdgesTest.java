/** Promises 12 to 21, sentence by sentence: each boundary case that one names, with the sentence as its part. */
public final class PathsEdgesTest {
    public static void main(String[] args) {
        errorsOfCommonAncestor();
        commonAncestorAtTheEnds();
        distanceFromZeroToLongest();
        pathVertexIndexedFromZero();
        pathVertexWithoutSuchIndex();
        pathSumOfAllVertices();
        pathMinimumInEveryPlace();
        pathMaximumInEveryPlace();
        reachOfExactlyTheBound();
        reachOfTheFirstOne();
        reachOfNoVertex();
        addOnPathTakesTheWholeRange();
        addOnPathReturnsTheNumber();
        addOnPathOverflows();
        setOnPathTakesTheWholeRange();
        setOnPathChangesThePathAlone();
        reverseValuesOfOneTwoAndMany();
        reverseValuesLeavesMarks();
        Expect.finish();
    }

    private static void errorsOfCommonAncestor() {
        Expect.part("12 to 21: NO_SUCH_VERTEX if either does not exist (checked first); NOT_CONNECTED in different trees");
        DynamicForest x = Trees.saved();
        Calls.ofPath().forEach((name, call) -> {
            for (int none : new int[] {-1, 9, 63, 64, Calls.MIN, Calls.MAX}) {
                Expect.due(name + " of 0, " + none, call.ask(x, 0, none), Calls.NO_SUCH_VERTEX);
                Expect.due(name + " of " + none + ", 7", call.ask(x, none, 7), Calls.NO_SUCH_VERTEX);
                Expect.due(name + " of " + none + " twice", call.ask(x, none, none), Calls.NO_SUCH_VERTEX);
            }
            Expect.due(name + " of 7, 8, two roots", call.ask(x, 7, 8), Calls.NOT_CONNECTED);
            Expect.due(name + " of 6, 8", call.ask(x, 6, 8), Calls.NOT_CONNECTED);
            Expect.due(name + " of 8, 6", call.ask(x, 8, 6), Calls.NOT_CONNECTED);
        });
        Expect.same("after them", Dump.withSlots(x), Dump.withSlots(Trees.saved()));
    }

    private static void commonAncestorAtTheEnds() {
        Expect.part("12: the lowest common ancestor of two vertices");
        int[][] meetings = {{0, 0, 0, 0, 0, 0, 0}, {0, 1, 0, 1, 1, 0, 0}, {0, 0, 2, 0, 0, 2, 2}, {0, 1, 0, 3, 1, 0, 0},
            {0, 1, 0, 1, 4, 0, 0}, {0, 0, 2, 0, 0, 5, 5}, {0, 0, 2, 0, 0, 5, 6}};
        DynamicForest x = Trees.seven();
        for (int u = 0; u < 7; u++) {
            for (int v = 0; v < 7; v++) {
                Expect.due("commonAncestor(" + u + ", " + v + ")", x.commonAncestor(u, v), meetings[u][v]);
            }
        }
        Expect.due("the only vertex", Trees.chain(1).commonAncestor(0, 0), 0);
        x.cut(2);
        Expect.due("commonAncestor(1, 6) after the cut", x.commonAncestor(1, 6), Calls.NOT_CONNECTED);
    }

    private static void distanceFromZeroToLongest() {
        Expect.part("13: the length of the path, the number of its edges");
        DynamicForest x = Trees.chain(64);
        for (int u : new int[] {0, 31, 63}) {
            for (int v = 0; v < 64; v++) {
                Expect.due("distance(" + u + ", " + v + ")", x.distance(u, v), Math.abs(u - v));
            }
        }
        Expect.due("distance(1, 63) of a star", Trees.star(64).distance(1, 63), 2);
    }

    private static void pathVertexIndexedFromZero() {
        Expect.part("14: a vertex of the path from u to v, the index from 0");
        DynamicForest x = Trees.chain(64);
        x.reroot(31);
        for (int i = 0; i < 64; i++) {
            Expect.due("pathVertex(0, 63, " + i + ")", x.pathVertex(0, 63, i), i);
            Expect.due("pathVertex(63, 0, " + i + ")", x.pathVertex(63, 0, i), 63 - i);
        }
        Expect.due("pathVertex(31, 31, 0)", x.pathVertex(31, 31, 0), 31);
    }

    private static void pathVertexWithoutSuchIndex() {
        Expect.part("14: the errors of commonAncestor (checked first); NONE if there is no such index");
        DynamicForest x = Trees.chain(64);
        x.distance(0, 63);
        Expect.due("pathVertex(0, 63, 64), one too many", x.pathVertex(0, 63, 64), Calls.NONE);
        Expect.due("pathVertex(0, 63, -1)", x.pathVertex(0, 63, -1), Calls.NONE);
        for (int v = 0; v < 63; v++) {
            Expect.due("behind the path to " + v, x.pathVertex(0, v, v + 1), Calls.NONE);
        }
        for (int index : new int[] {-1, 1, 63, Calls.MAX, Calls.MIN}) {
            Expect.due("pathVertex(5, 5, " + index + ")", x.pathVertex(5, 5, index), Calls.NONE);
            Expect.due("pathVertex(5, 64, " + index + ")", x.pathVertex(5, 64, index), Calls.NO_SUCH_VERTEX);
        }
        x.cut(32);
        Expect.due("pathVertex(0, 63, -1) after the cut", x.pathVertex(0, 63, -1), Calls.NOT_CONNECTED);
    }

    private static void pathSumOfAllVertices() {
        Expect.part("15: the sum of the values on the path");
        DynamicForest x = Trees.seven(1, 10, 100, 1000, 10000, 100000, 1000000);
        Expect.due("pathSum(3, 6)", x.pathSum(3, 6), 1101111);
        Expect.due("pathSum(6, 3)", x.pathSum(6, 3), 1101111);
        Expect.due("pathSum(3, 4), the root is not on it", x.pathSum(3, 4), 11010);
        Expect.due("pathSum(2, 6), downwards", x.pathSum(2, 6), 1100100);
        Expect.due("pathSum(6, 6)", x.pathSum(6, 6), 1000000);
        DynamicForest y = Trees.chain(64);
        y.setOnPath(0, 63, Calls.LIMIT);
        Expect.due("the greatest sum", y.pathSum(0, 63), 64000000);
        y.setOnPath(0, 63, -Calls.LIMIT);
        Expect.due("the least sum", y.pathSum(63, 0), -64000000);
    }

    private static void pathMinimumInEveryPlace() {
        Expect.part("16: the vertex with the smallest value on the path");
        DynamicForest x = Trees.chain(64);
        x.reroot(31);
        x.setOnPath(0, 63, Calls.LIMIT);
        for (int v = 0; v < 64; v++) {
            x.setValue(v, Calls.LIMIT - 1);
            Expect.due("pathMinimum(0, 63) at " + v, x.pathMinimum(0, 63), v);
            Expect.due("pathMinimum(63, 0) at " + v, x.pathMinimum(63, 0), v);
            Expect.due("pathMinimum beside it", x.pathMinimum(v, v), v);
            x.setValue(v, Calls.LIMIT);
        }
        x.setValue(0, -Calls.LIMIT);
        x.setValue(63, -Calls.LIMIT);
        Expect.due("pathMinimum(0, 63), the same at both ends", x.pathMinimum(0, 63), 0);
        Expect.due("pathMinimum(63, 0), the same at both ends", x.pathMinimum(63, 0), 63);
        Expect.due("pathMinimum(1, 62), the least are outside", x.pathMinimum(1, 62), 1);
    }

    private static void pathMaximumInEveryPlace() {
        Expect.part("17: the vertex with the greatest value on the path");
        DynamicForest x = Trees.chain(64);
        x.reroot(31);
        x.setOnPath(0, 63, -Calls.LIMIT);
        for (int v = 0; v < 64; v++) {
            x.setValue(v, 1 - Calls.LIMIT);
            Expect.due("pathMaximum(0, 63) at " + v, x.pathMaximum(0, 63), v);
            Expect.due("pathMaximum(63, 0) at " + v, x.pathMaximum(63, 0), v);
            Expect.due("pathMaximum beside it", x.pathMaximum(v, v), v);
            x.setValue(v, -Calls.LIMIT);
        }
        x.setValue(0, Calls.LIMIT);
        x.setValue(63, Calls.LIMIT);
        Expect.due("pathMaximum(0, 63), the same at both ends", x.pathMaximum(0, 63), 0);
        Expect.due("pathMaximum(63, 0), the same at both ends", x.pathMaximum(63, 0), 63);
        Expect.due("pathMaximum(1, 62), the greatest are outside", x.pathMaximum(1, 62), 1);
    }

    private static void reachOfExactlyTheBound() {
        Expect.part("18: the sum up to that vertex, both included, is at least the bound");
        DynamicForest x = Trees.chain(64);
        x.setOnPath(0, 63, Calls.LIMIT);
        for (int v = 0; v < 64; v++) {
            int sum = (v + 1) * Calls.LIMIT;
            Expect.due("reach(0, 63, " + sum + "), exactly", x.reach(0, 63, sum), v);
            Expect.due("reach(0, 63, " + (sum - 1) + "), one less", x.reach(0, 63, sum - 1), v);
            Expect.due("reach(63, 0, " + sum + ")", x.reach(63, 0, sum), 63 - v);
            int behind = v == 63 ? Calls.NONE : v + 1;
            Expect.due("reach(0, 63, " + (sum + 1) + "), one more", x.reach(0, 63, sum + 1), behind);
        }
    }

    private static void reachOfTheFirstOne() {
        Expect.part("18: the first vertex on the path whose prefix sum reaches the bound");
        DynamicForest x = Trees.seven(0, 3, -4, 0, 0, 9, 0);
        Expect.due("reach(3, 6, 3), where the sum stays", x.reach(3, 6, 3), 1);
        Expect.due("reach(3, 6, 4), after it fell", x.reach(3, 6, 4), 5);
        Expect.due("reach(3, 6, 8), the whole sum", x.reach(3, 6, 8), 5);
        Expect.due("reach(6, 3, 9), over the whole sum", x.reach(6, 3, 9), 5);
        Expect.due("reach(3, 6, 0), u itself", x.reach(3, 6, 0), 3);
        Expect.due("reach(2, 3, -4), below 0", x.reach(2, 3, -4), 2);
        Expect.due("reach(2, 3, -3), below 0", x.reach(2, 3, -3), 1);
        Expect.due("reach(2, 3, least int)", x.reach(2, 3, Calls.MIN), 2);
    }

    private static void reachOfNoVertex() {
        Expect.part("18: the errors of commonAncestor (checked first); NONE if there is no such vertex");
        DynamicForest x = Trees.chain(64);
        x.setOnPath(0, 63, Calls.LIMIT);
        Expect.due("reach(0, 63, 64000001)", x.reach(0, 63, 64000001), Calls.NONE);
        Expect.due("reach(0, 63, greatest int)", x.reach(0, 63, Calls.MAX), Calls.NONE);
        Expect.due("reach(5, 5, 1000001)", x.reach(5, 5, 1000001), Calls.NONE);
        Expect.due("reach(5, 64, greatest int)", x.reach(5, 64, Calls.MAX), Calls.NO_SUCH_VERTEX);
        x.setOnPath(0, 63, -Calls.LIMIT);
        Expect.due("reach(0, 63, -999999)", x.reach(0, 63, 1 - Calls.LIMIT), Calls.NONE);
        Expect.due("reach(0, 63, -1000000)", x.reach(0, 63, -Calls.LIMIT), 0);
        Expect.due("reach(0, 63, greatest int), below 0", x.reach(0, 63, Calls.MAX), Calls.NONE);
        x.cut(32);
        Expect.due("reach(0, 63, least int) after the cut", x.reach(0, 63, Calls.MIN), Calls.NOT_CONNECTED);
    }

    private static void addOnPathTakesTheWholeRange() {
        Expect.part("19: delta: -1000000 to 1000000; OUT_OF_RANGE if it is not (checked second)");
        DynamicForest x = Trees.seven();
        for (int sign : new int[] {1, -1}) {
            Expect.due("delta at the limit", x.addOnPath(3, 6, sign * Calls.LIMIT), 6);
            Expect.due("value(0)", x.value(0), sign * Calls.LIMIT);
            Expect.due("delta back", x.addOnPath(6, 3, -sign * Calls.LIMIT), 6);
            Expect.due("value(0) at 0 again", x.value(0), 0);
        }
        x.setOnPath(3, 6, Calls.LIMIT);
        x.setOnPath(4, 4, -Calls.LIMIT);
        String before = Dump.of(x);
        for (int delta : Calls.NO_VALUES) {
            Expect.due("addOnPath(3, 6, " + delta + ")", x.addOnPath(3, 6, delta), Calls.OUT_OF_RANGE);
            Expect.due("addOnPath(4, 4, " + delta + ")", x.addOnPath(4, 4, delta), Calls.OUT_OF_RANGE);
            Expect.due("addOnPath(9, 9, " + delta + ")", x.addOnPath(9, 9, delta), Calls.OUT_OF_RANGE);
            Expect.due("addOnPath(3, 9, " + delta + ")", x.addOnPath(3, 9, delta), Calls.NOT_CONNECTED);
            Expect.due("addOnPath(3, 16, " + delta + ")", x.addOnPath(3, 16, delta), Calls.NO_SUCH_VERTEX);
        }
        Expect.same("after refused calls", Dump.of(x), before);
    }

    private static void addOnPathReturnsTheNumber() {
        Expect.part("19: adds to all vertices on the path; returns their number");
        DynamicForest x = Trees.chain(64);
        Expect.due("addOnPath(0, 63, 1)", x.addOnPath(0, 63, 1), 64);
        Expect.due("addOnPath(62, 1, -3)", x.addOnPath(62, 1, -3), 62);
        Expect.due("addOnPath(31, 31, 5)", x.addOnPath(31, 31, 5), 1);
        Expect.due("addOnPath(31, 32, 0)", x.addOnPath(31, 32, 0), 2);
        for (int v = 0; v < 64; v++) {
            Expect.due("value(" + v + ")", x.value(v), v == 0 || v == 63 ? 1 : v == 31 ? 3 : -2);
        }
        DynamicForest y = Trees.seven();
        Expect.due("addOnPath(3, 4, 2), beside the root", y.addOnPath(3, 4, 2), 3);
        Expect.due("value(0), not on it", y.value(0), 0);
        Expect.due("value(1), where it turns", y.value(1), 2);
    }

    private static void addOnPathOverflows() {
        Expect.part("19: VALUE_OVERFLOW if a value would be outside of the range");
        for (int sign : new int[] {1, -1}) {
            for (int full : new int[] {3, 1, 0, 2, 5, 6}) {
                DynamicForest x = Trees.seven();
                x.setValue(full, sign * 999999);
                Expect.due("up to the limit, " + full, x.addOnPath(3, 6, sign), 6);
                Expect.due("value(" + full + ")", x.value(full), sign * Calls.LIMIT);
                String before = Dump.of(x);
                Expect.due("over the limit, " + full, x.addOnPath(3, 6, sign), Calls.VALUE_OVERFLOW);
                Expect.due("far over the limit, " + full, x.addOnPath(6, 3, sign * Calls.LIMIT), Calls.VALUE_OVERFLOW);
                Expect.same("after refused calls", Dump.of(x), before);
                Expect.due("nothing more, " + full, x.addOnPath(3, 6, 0), 6);
                Expect.due("a full one beside the path", x.addOnPath(4, 4, sign), 1);
            }
        }
    }

    private static void setOnPathTakesTheWholeRange() {
        Expect.part("20: value: -1000000 to 1000000; OUT_OF_RANGE if it is not, after the errors of commonAncestor");
        DynamicForest x = Trees.seven();
        for (int value : new int[] {Calls.LIMIT, -Calls.LIMIT, 0}) {
            Expect.due("setOnPath(6, 4, " + value + ")", x.setOnPath(6, 4, value), 6);
            Expect.due("value(6)", x.value(6), value);
            Expect.due("value(0)", x.value(0), value);
        }
        String before = Dump.of(x);
        for (int value : Calls.NO_VALUES) {
            Expect.due("setOnPath(6, 4, " + value + ")", x.setOnPath(6, 4, value), Calls.OUT_OF_RANGE);
            Expect.due("setOnPath(9, 9, " + value + ")", x.setOnPath(9, 9, value), Calls.OUT_OF_RANGE);
            Expect.due("setOnPath(6, 9, " + value + ")", x.setOnPath(6, 9, value), Calls.NOT_CONNECTED);
            Expect.due("setOnPath(16, 4, " + value + ")", x.setOnPath(16, 4, value), Calls.NO_SUCH_VERTEX);
        }
        Expect.same("after refused calls", Dump.of(x), before);
    }

    private static void setOnPathChangesThePathAlone() {
        Expect.part("20: all vertices on the path get the same value; returns their number");
        DynamicForest x = Trees.chain(64);
        x.setMark(20, true);
        Expect.due("setOnPath(0, 63, 5)", x.setOnPath(0, 63, 5), 64);
        Expect.due("setOnPath(20, 40, -6), over other values", x.setOnPath(20, 40, -6), 21);
        Expect.due("setOnPath(31, 31, 7)", x.setOnPath(31, 31, 7), 1);
        for (int v = 0; v < 64; v++) {
            Expect.due("value(" + v + ")", x.value(v), v == 31 ? 7 : v < 20 || v > 40 ? 5 : -6);
        }
        Expect.due("the mark of 20 stays", x.setMark(20, true), 1);
    }

    private static void reverseValuesOfOneTwoAndMany() {
        Expect.part("21: the first vertex gets the value of the last one, and so on; returns the number of vertices");
        for (int last = 0; last < 64; last++) {
            DynamicForest x = Trees.chain(64);
            for (int v = 0; v < 64; v++) {
                x.setValue(v, v * v);
            }
            int answer = last % 2 == 0 ? x.reverseValues(0, last) : x.reverseValues(last, 0);
            Expect.due("reverseValues to " + last, answer, last + 1);
            for (int v = 0; v < 64; v++) {
                int due = v <= last ? last - v : v;
                Expect.due("value(" + v + ") of " + last, x.value(v), due * due);
            }
        }
        DynamicForest y = Trees.seven(Calls.LIMIT, 1, 2, 3, 4, 5, -Calls.LIMIT);
        Expect.due("reverseValues(4, 6), around the root", y.reverseValues(4, 6), 6);
        int[] values = {2, 5, Calls.LIMIT, 3, -Calls.LIMIT, 1, 4};
        for (int v = 0; v < 7; v++) {
            Expect.due("value(" + v + ") around the root", y.value(v), values[v]);
        }
    }

    private static void reverseValuesLeavesMarks() {
        Expect.part("21: marks do not change");
        DynamicForest x = Trees.seven();
        x.setMark(4, true);
        x.setMark(1, true);
        Expect.due("reverseValues(4, 6)", x.reverseValues(4, 6), 6);
        for (int v = 0; v < 7; v++) {
            Expect.due("mark of " + v, x.setMark(v, true), v == 1 || v == 4 ? 1 : 0);
        }
    }
}
