import java.lang.reflect.Constructor;
import java.lang.reflect.Field;
import java.lang.reflect.Method;
import java.lang.reflect.Modifier;
import java.util.TreeSet;

/** The class shows the document's face and nothing else (LANGUAGE.md, rule 1). */
public final class FaceTest {
    private static final Check CHECK = new Check("face");
    private static final String METHODS = "int allKnow() int among() int asking(int,int) int back() "
            + "int byTurns(int,int) int cloak(int,int) int count(int) int deeds(int) int fault() int forget() "
            + "int heir(int) int keep() int knows(int,int) int lay() int make(int) int mend(int) int noon() "
            + "int quiet() int relative(int,int) int say(int,int) int saying(int,int) int thinks(int) "
            + "int took(int,int) int undo() int wipe() int write(int) int year(int,int,int) "
            + "long lasts(int,int,int)";

    public static void main(String[] args) {
        CHECK.due("the class", Modifier.toString(LastToAsk.class.getModifiers()), "public final");
        CHECK.due("methods", String.join(" ", methods()), METHODS);
        CHECK.due("constants", String.join(" ", constants()), "BAD FULL NO NONE");
        Constructor<?>[] constructors = LastToAsk.class.getDeclaredConstructors();
        CHECK.due("constructors", constructors.length, 1);
        CHECK.due("the constructor", constructors[0].toString(), "public LastToAsk()");
        CHECK.close();
    }

    private static TreeSet<String> methods() {
        TreeSet<String> names = new TreeSet<>();
        TreeSet<String> hidden = new TreeSet<>();
        for (Method method : LastToAsk.class.getDeclaredMethods()) {
            if (Modifier.isPrivate(method.getModifiers())) {
                hidden.add(method.getName());
            } else {
                CHECK.due(method.getName(), Modifier.toString(method.getModifiers()), "public");
                names.add(method.toString().replace("public ", "").replace("LastToAsk.", ""));
            }
        }
        for (String name : hidden) {
            CHECK.due("a private " + name, METHODS.contains(" " + name + "(") ? 1 : 0, 0);
        }
        return names;
    }

    private static TreeSet<String> constants() {
        TreeSet<String> names = new TreeSet<>();
        for (Field field : LastToAsk.class.getDeclaredFields()) {
            if (!Modifier.isPrivate(field.getModifiers())) {
                CHECK.due(field.getName(), field.toString(),
                        "public static final int LastToAsk." + field.getName());
                names.add(field.getName());
            }
        }
        return names;
    }
}
