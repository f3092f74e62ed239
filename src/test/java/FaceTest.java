import java.lang.reflect.Constructor;
import java.lang.reflect.Field;
import java.lang.reflect.Method;
import java.lang.reflect.Modifier;
import java.util.Set;
import java.util.TreeSet;

/** The public face is the document's, and nothing else of the class can be seen. */
public final class FaceTest {
    private static final Set<String> FACE = Set.of(
            "int NONE", "long NOTHING", "ShrinkLayout()",
            "int part(int,int)", "int plain(int,int)", "int call(int,int,int,boolean)",
            "int upper(int,int,int,boolean)", "int near(int,int,int)", "int fill(int,int,int)",
            "int label()", "boolean put(int,int,int)", "boolean base(int)", "boolean align(int,int)",
            "boolean root(int,boolean)", "int sweep()", "void back()", "int pass()", "int shrink()",
            "int settle()", "void reset()", "int holds()", "int lacks()", "int piece(int,int)",
            "long aim(int)", "int value(int)", "int span(int,int)", "int output(int,int)", "int saved()");

    public static void main(String[] args) {
        Due due = new Due();
        due.is("NONE", ShrinkLayout.NONE, -1L);
        due.is("NOTHING", ShrinkLayout.NOTHING, 1099511627776L);

        Set<String> seen = new TreeSet<>();
        Set<String> publicNames = new TreeSet<>();
        for (Field field : ShrinkLayout.class.getDeclaredFields()) {
            if (!Modifier.isPrivate(field.getModifiers())) {
                due.is(field + " is a constant", isConstant(field), true);
                seen.add(field.getType() + " " + field.getName());
            }
        }
        for (Constructor<?> made : ShrinkLayout.class.getDeclaredConstructors()) {
            seen.add("ShrinkLayout" + types(made.getParameterTypes()));
        }
        for (Method method : ShrinkLayout.class.getDeclaredMethods()) {
            if (!Modifier.isPrivate(method.getModifiers())) {
                seen.add(method.getReturnType() + " " + method.getName() + types(method.getParameterTypes()));
                publicNames.add(method.getName());
            }
        }
        due.is("the face " + seen + " is the document's", seen.equals(FACE), true);
        for (Method method : ShrinkLayout.class.getDeclaredMethods()) {
            if (Modifier.isPrivate(method.getModifiers())) {
                due.is(method + " bears a public one's name", publicNames.contains(method.getName()), false);
            }
        }
        int flags = ShrinkLayout.class.getModifiers();
        due.is("the class is public and final", Modifier.isPublic(flags) && Modifier.isFinal(flags), true);
        due.end();
    }

    private static boolean isConstant(Field field) {
        int flags = field.getModifiers();
        return Modifier.isPublic(flags) && Modifier.isStatic(flags) && Modifier.isFinal(flags);
    }

    private static String types(Class<?>[] types) {
        StringBuilder text = new StringBuilder("(");
        for (Class<?> type : types) {
            text.append(text.length() > 1 ? "," : "").append(type);
        }
        return text.append(")").toString();
    }
}
