/** The five examples of the document. */
public final class ExamplesTest {
    public static void main(String[] args) {
        pathsAndTies();
        anotherRootAndACut();
        changes();
        marksAndADiameter();
        errors();
        Expect.finish();
    }

    private static void pathsAndTies() {
        Expect.part("example 1");
        DynamicForest x = new DynamicForest();
        Expect.due("link(1, 0)", x.link(1, 0), 2);
        Expect.due("link(2, 0)", x.link(2, 0), 3);
        Expect.due("link(3, 1)", x.link(3, 1), 4);
        Expect.due("setValue(0, 5)", x.setValue(0, 5), 0);
        Expect.due("setValue(1, -2)", x.setValue(1, -2), 0);
        Expect.due("setValue(2, 5)", x.setValue(2, 5), 0);
        Expect.due("pathVertex(3, 2, 2)", x.pathVertex(3, 2, 2), 0);
        Expect.due("pathSum(3, 2)", x.pathSum(3, 2), 8);
        Expect.due("pathMaximum(3, 2)", x.pathMaximum(3, 2), 0);
        Expect.due("pathMaximum(2, 3)", x.pathMaximum(2, 3), 2);
        Expect.due("reach(2, 3, 8)", x.reach(2, 3, 8), 0);
    }

    private static void anotherRootAndACut() {
        Expect.part("example 2");
        DynamicForest x = new DynamicForest();
        Expect.due("link(1, 0)", x.link(1, 0), 2);
        Expect.due("link(2, 1)", x.link(2, 1), 3);
        Expect.due("reroot(2)", x.reroot(2), 0);
        Expect.due("parent(0)", x.parent(0), 1);
        Expect.due("subtreeSize(1)", x.subtreeSize(1), 2);
        Expect.due("commonAncestor(0, 1)", x.commonAncestor(0, 1), 1);
        Expect.due("cut(1)", x.cut(1), 2);
        Expect.due("connected(0, 2)", x.connected(0, 2), 0);
    }

    private static void changes() {
        Expect.part("example 3");
        DynamicForest x = new DynamicForest();
        Expect.due("link(1, 0)", x.link(1, 0), 2);
        Expect.due("link(2, 1)", x.link(2, 1), 3);
        Expect.due("addOnPath(0, 2, 7)", x.addOnPath(0, 2, 7), 3);
        Expect.due("setOnPath(1, 2, 1)", x.setOnPath(1, 2, 1), 2);
        Expect.due("reverseValues(0, 1)", x.reverseValues(0, 1), 2);
        Expect.due("value(0)", x.value(0), 1);
        Expect.due("value(1)", x.value(1), 7);
        Expect.due("addInSubtree(1, 3)", x.addInSubtree(1, 3), 2);
        Expect.due("subtreeSum(0)", x.subtreeSum(0), 15);
    }

    private static void marksAndADiameter() {
        Expect.part("example 4");
        DynamicForest x = new DynamicForest();
        Expect.due("link(1, 0)", x.link(1, 0), 2);
        Expect.due("setMark(3, true)", x.setMark(3, true), 0);
        Expect.due("nearestMarked(0)", x.nearestMarked(0), -100000007);
        Expect.due("setMark(1, true)", x.setMark(1, true), 0);
        Expect.due("nearestMarked(0)", x.nearestMarked(0), 1);
        Expect.due("diameter(0)", x.diameter(0), 1);
    }

    private static void errors() {
        Expect.part("example 5");
        DynamicForest x = new DynamicForest();
        Expect.due("link(0, 0)", x.link(0, 0), -100000008);
        Expect.due("link(0, 99)", x.link(0, 99), -100000001);
        Expect.due("cut(0)", x.cut(0), -100000007);
        Expect.due("pathSum(0, 1)", x.pathSum(0, 1), -100000004);
        Expect.due("setValue(0, 1000000)", x.setValue(0, 1000000), 0);
        Expect.due("addOnPath(0, 0, 1)", x.addOnPath(0, 0, 1), -100000005);
        Expect.due("value(0)", x.value(0), 1000000);
    }
}
