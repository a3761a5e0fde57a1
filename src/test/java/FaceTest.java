import java.lang.reflect.Constructor;
import java.lang.reflect.Field;
import java.lang.reflect.Method;
import java.lang.reflect.Modifier;
import java.util.Arrays;
import java.util.TreeSet;

/** The public face, just as the document has it, and no member beside it that is not private. */
public final class FaceTest {
    private static final String[] METHODS = {
        "reset(int)", "link(int,int)", "cut(int)", "reroot(int)", "vertexCount()", "treeCount()", "parent(int)",
        "root(int)", "depth(int)", "connected(int,int)", "commonAncestor(int,int)", "distance(int,int)",
        "pathVertex(int,int,int)", "pathSum(int,int)", "pathMinimum(int,int)", "pathMaximum(int,int)",
        "reach(int,int,int)", "addOnPath(int,int,int)", "setOnPath(int,int,int)", "reverseValues(int,int)",
        "subtreeSize(int)", "subtreeSum(int)", "addInSubtree(int,int)", "diameter(int)", "setValue(int,int)",
        "value(int)", "setMark(int,boolean)", "nearestMarked(int)", "save(int)", "restore(int)"};

    public static void main(String[] args) throws Exception {
        Expect.part("face");
        Class<?> face = DynamicForest.class;
        Expect.due("public final class", face.getModifiers() & (Modifier.PUBLIC | Modifier.FINAL), Modifier.PUBLIC | Modifier.FINAL);
        constants(face);
        constructor(face);
        methods(face);
        Expect.finish();
    }

    private static void constants(Class<?> face) throws Exception {
        String[] names = {"NO_SUCH_VERTEX", "OUT_OF_RANGE", "NOT_A_ROOT", "NOT_CONNECTED", "VALUE_OVERFLOW", "NOT_SAVED", "NONE", "SAME_TREE"};
        for (int i = 0; i < names.length; i++) {
            Expect.due(names[i], face.getField(names[i]).getInt(null), -100000001 - i);
        }
        TreeSet<String> open = new TreeSet<>();
        for (Field field : face.getDeclaredFields()) {
            int modifiers = field.getModifiers();
            if (!Modifier.isPrivate(modifiers)) {
                open.add(field.getName());
                Expect.due("public static final int " + field.getName(), modifiers, Modifier.PUBLIC | Modifier.STATIC | Modifier.FINAL);
                Expect.same("type of " + field.getName(), field.getType().getName(), "int");
            }
            Expect.due("static without final: " + field.getName(), Modifier.isStatic(modifiers) && !Modifier.isFinal(modifiers) ? 1 : 0, 0);
        }
        Expect.same("open fields", open.toString(), new TreeSet<>(Arrays.asList(names)).toString());
    }

    private static void constructor(Class<?> face) {
        Constructor<?>[] all = face.getDeclaredConstructors();
        Expect.due("number of constructors", all.length, 1);
        Expect.due("its parameters", all[0].getParameterCount(), 0);
        Expect.due("its modifiers", all[0].getModifiers(), Modifier.PUBLIC);
    }

    private static void methods(Class<?> face) {
        TreeSet<String> open = new TreeSet<>();
        TreeSet<String> names = new TreeSet<>();
        for (String method : METHODS) {
            names.add(method.substring(0, method.indexOf('(')));
        }
        for (Method method : face.getDeclaredMethods()) {
            if (Modifier.isPrivate(method.getModifiers())) {
                Expect.due("private method with a public name: " + method.getName(), names.contains(method.getName()) ? 1 : 0, 0);
                continue;
            }
            StringBuilder text = new StringBuilder(method.getName()).append('(');
            for (Class<?> type : method.getParameterTypes()) {
                text.append(text.charAt(text.length() - 1) == '(' ? "" : ",").append(type.getName());
            }
            open.add(text.append(')').toString());
            Expect.due("modifiers of " + text, method.getModifiers(), Modifier.PUBLIC);
            Expect.same("type of " + text, method.getReturnType().getName(), "int");
        }
        Expect.same("open methods", open.toString(), new TreeSet<>(Arrays.asList(METHODS)).toString());
    }
}
