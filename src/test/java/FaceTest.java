import java.lang.reflect.Constructor;
import java.lang.reflect.Field;
import java.lang.reflect.Method;
import java.lang.reflect.Modifier;
import java.util.Set;
import java.util.TreeSet;

/** The class has the document's public face and no other member that is not private. */
public final class FaceTest {
    private static final Check CHECK = new Check("FaceTest");
    static final Set<String> METHODS = Set.of(
            "int feed(int,int,int,int,int)", "boolean end(int)", "int taped()", "int pack(int)", "int install(int)",
            "int request(boolean)", "int confirm()", "int boot()", "boolean cut(int,int)", "void power()",
            "boolean harm(int,int)", "int flash(int)", "int due()", "int image(int,int)", "int trailer(int,int)",
            "int wear(int)", "int look(int)");
    private static final Set<String> CONSTANTS = Set.of("NONE", "IDLE", "BUSY", "DOWN");

    private FaceTest() {
    }

    public static void main(String[] args) {
        CHECK.due("public and final", ScratchSwap.class.getModifiers(), Modifier.PUBLIC | Modifier.FINAL);
        methods();
        fields();
        Constructor<?>[] constructors = ScratchSwap.class.getDeclaredConstructors();
        CHECK.due("constructors", constructors.length, 1);
        CHECK.due("its parameters", constructors[0].getParameterCount(), 0);
        CHECK.due("it is public", Modifier.isPublic(constructors[0].getModifiers()), true);
        for (Class<?> inside : ScratchSwap.class.getDeclaredClasses()) {
            CHECK.due(inside + " is static", Modifier.isStatic(inside.getModifiers()), true);
            CHECK.due(inside + " is not public", Modifier.isPublic(inside.getModifiers()), false);
        }
        CHECK.end();
    }

    private static void methods() {
        Set<String> open = new TreeSet<>();
        Set<String> openNames = new TreeSet<>();
        Set<String> hiddenNames = new TreeSet<>();
        for (Method method : ScratchSwap.class.getDeclaredMethods()) {
            if (Modifier.isPrivate(method.getModifiers())) {
                hiddenNames.add(method.getName());
                continue;
            }
            StringBuilder text = new StringBuilder(method.getReturnType() + " " + method.getName() + "(");
            for (Class<?> parameter : method.getParameterTypes()) {
                text.append(text.charAt(text.length() - 1) == '(' ? "" : ",").append(parameter);
            }
            open.add(text.append(")").toString());
            openNames.add(method.getName());
            CHECK.due(method + " is public alone", method.getModifiers(), Modifier.PUBLIC);
        }
        CHECK.due("the methods " + open + " are the document's", open.equals(METHODS), true);
        hiddenNames.retainAll(openNames);
        CHECK.due("private methods with a public name " + hiddenNames, hiddenNames.isEmpty(), true);
    }

    private static void fields() {
        Set<String> open = new TreeSet<>();
        for (Field field : ScratchSwap.class.getDeclaredFields()) {
            int modifiers = field.getModifiers();
            if (!Modifier.isPrivate(modifiers)) {
                open.add(field.getName());
                CHECK.due(field + " is public static final", modifiers,
                        Modifier.PUBLIC | Modifier.STATIC | Modifier.FINAL);
                CHECK.due(field + " is an int", field.getType() == int.class, true);
            }
        }
        CHECK.due("the constants " + open + " are the document's", open.equals(CONSTANTS), true);
    }
}
