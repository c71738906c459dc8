import java.lang.reflect.Constructor;
import java.lang.reflect.Field;
import java.lang.reflect.Method;
import java.lang.reflect.Modifier;
import java.util.Arrays;
import java.util.TreeSet;

/** The public face: every constant, constructor and method of the document, and nothing else that can be seen. */
public final class FaceTest {
    private static int wrong = 0;

    private static final String[] METHODS = {
        "int block()", "int code(int, int, int)", "int merger()", "int act(int, int, int)",
        "long tells(int, long, long, long)", "int isRight(int)", "int kind(int, int)", "int start(long)",
        "int stop()", "int step(int, int)", "int ready(int)", "int deep(int)", "int drawn(int, int)",
        "int about(int, int)", "long result(int)", "long out(int, int)", "long read(int, int)", "long mark(int)",
        "int gather()", "long version(int, int)", "int below(int)", "int count(int)", "long digest()"};

    private static void due(String what, Object got, Object want) {
        if (!got.equals(want)) {
            wrong++;
            System.out.println(what + " is " + got + ", due is " + want);
        }
    }

    private static String told(Method m) {
        StringBuilder text = new StringBuilder(m.getReturnType() + " " + m.getName() + "(");
        for (Class<?> type : m.getParameterTypes()) {
            text.append(text.charAt(text.length() - 1) == '(' ? "" : ", ").append(type);
        }
        return text.append(")").toString();
    }

    public static void main(String[] args) {
        Class<BranchCells> face = BranchCells.class;
        due("the class's modifiers", Modifier.toString(face.getModifiers()), "public final");
        TreeSet<String> seen = new TreeSet<>();
        TreeSet<String> hidden = new TreeSet<>();
        for (Method m : face.getDeclaredMethods()) {
            (Modifier.isPrivate(m.getModifiers()) ? hidden : seen).add(told(m));
            due("public, if not private: " + m, !Modifier.isPrivate(m.getModifiers()), Modifier.isPublic(m.getModifiers()));
        }
        due("the methods", seen, new TreeSet<>(Arrays.asList(METHODS)));
        for (String name : hidden) {
            due("a private method with a public name: " + name, Arrays.asList(METHODS).contains(name), false);
        }
        TreeSet<String> constants = new TreeSet<>();
        for (Field f : face.getDeclaredFields()) {
            if (!Modifier.isPrivate(f.getModifiers())) {
                constants.add(Modifier.toString(f.getModifiers()) + " " + f.getType() + " " + f.getName());
            }
        }
        String kind = "public static final int ";
        due("the constants", constants, new TreeSet<>(Arrays.asList(kind + "BAD", kind + "NO", kind + "FULL", kind + "NONE")));
        due("BAD", BranchCells.BAD, -1);
        due("NO", BranchCells.NO, -2);
        due("FULL", BranchCells.FULL, -3);
        due("NONE", BranchCells.NONE, -4);
        Constructor<?>[] makers = face.getDeclaredConstructors();
        due("how many constructors", makers.length, 1);
        due("the constructor", makers[0].toString(), "public BranchCells()");
        for (Class<?> inside : face.getDeclaredClasses()) {
            due("static: " + inside, Modifier.isStatic(inside.getModifiers()), true);
            due("neither public nor protected: " + inside, inside.getModifiers() & (Modifier.PUBLIC | Modifier.PROTECTED), 0);
        }
        due("few classes", face.getDeclaredClasses().length <= 11, true);
        System.out.println(wrong == 0 ? "all is as due" : wrong + " are not as due");
        if (wrong != 0) {
            System.exit(1);
        }
    }
}
