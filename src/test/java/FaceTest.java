import java.lang.reflect.Constructor;
import java.lang.reflect.Field;
import java.lang.reflect.Method;
import java.lang.reflect.Modifier;
import java.util.Arrays;
import java.util.TreeSet;

/** The public face is the document's, with what each method says it throws, and nothing else can be seen. */
public final class FaceTest {
    public static void main(String[] args) {
        Check check = new Check();
        check.same("NONE", BranchFilters.NONE, -1);
        TreeSet<String> due = new TreeSet<>(Arrays.asList(
                "void filter(int,int,int) IllegalArgumentException",
                "void begin(int,boolean)",
                "int feed(int,int,int,int,int) IllegalArgumentException IllegalStateException",
                "int finish() IllegalStateException",
                "int output(int)",
                "int count(int,int) IllegalArgumentException",
                "int word(int) IndexOutOfBoundsException",
                "BranchFilters()",
                "int NONE"));
        TreeSet<String> seen = new TreeSet<>();
        for (Method m : BranchFilters.class.getDeclaredMethods()) {
            if (!Modifier.isPrivate(m.getModifiers())) {
                seen.add(m.getReturnType().getSimpleName() + " " + m.getName()
                        + names(m.getParameterTypes(), "(", ",", ")") + names(m.getExceptionTypes(), "", " ", ""));
            }
        }
        for (Constructor<?> c : BranchFilters.class.getDeclaredConstructors()) {
            seen.add("BranchFilters" + names(c.getParameterTypes(), "(", ",", ")"));
        }
        for (Field f : BranchFilters.class.getDeclaredFields()) {
            if (!Modifier.isPrivate(f.getModifiers())) {
                seen.add(f.getType().getSimpleName() + " " + f.getName());
            }
        }
        check.same("the face", seen.toString(), due.toString());
        check.same("final", Modifier.isFinal(BranchFilters.class.getModifiers()) ? 1 : 0, 1);
        check.end();
    }

    private static String names(Class<?>[] types, String open, String between, String close) {
        StringBuilder text = new StringBuilder();
        for (Class<?> type : types) {
            text.append(text.length() == 0 && open.length() > 0 ? "" : between).append(type.getSimpleName());
        }
        return open + text + close;
    }
}
