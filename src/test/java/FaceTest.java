import java.lang.reflect.Constructor;
import java.lang.reflect.Field;
import java.lang.reflect.Method;
import java.lang.reflect.Modifier;
import java.util.ArrayList;
import java.util.Arrays;
import java.util.Collections;
import java.util.HashSet;
import java.util.List;
import java.util.Set;

/** The face is the document's and no more. */
public final class FaceTest {
    private static final Checks CHECKS = new Checks();

    private static final String[] DUE = {
        "int sign(char) IllegalArgumentException IllegalStateException",
        "int clear()",
        "int tell(int) IndexOutOfBoundsException IllegalStateException",
        "int fault()",
        "int lot() IllegalStateException",
        "int wipe()",
        "int length()",
        "boolean isPlain(int) IndexOutOfBoundsException IllegalStateException",
        "boolean isRegular(int) IndexOutOfBoundsException IllegalStateException",
        "int setBudget(int) IllegalArgumentException",
        "int match(int,int) IndexOutOfBoundsException IllegalStateException",
        "int find(int,int) IndexOutOfBoundsException IllegalStateException",
        "int matchBySets(int,int) IndexOutOfBoundsException IllegalStateException",
        "int group(int,boolean) IndexOutOfBoundsException",
        "int trials()",
        "int longest(int,int) IndexOutOfBoundsException IllegalStateException",
        "boolean canStill(int,int) IndexOutOfBoundsException IllegalStateException",
        "int which(int) IndexOutOfBoundsException",
        "int ways(int,int,int) IndexOutOfBoundsException IllegalStateException",
        "int findAll(int) IndexOutOfBoundsException IllegalStateException",
        "int found(int,boolean) IndexOutOfBoundsException",
        "int replace(int) IndexOutOfBoundsException IllegalStateException",
        "char outSign(int) IndexOutOfBoundsException",
    };

    public static void main(String[] args) throws Exception {
        List<String> got = new ArrayList<>();
        Set<String> names = new HashSet<>();
        for (Method method : Regexloom.class.getDeclaredMethods()) {
            if (Modifier.isPrivate(method.getModifiers())) {
                continue;
            }
            CHECKS.due("public, of the object: " + method, method.getModifiers(), Modifier.PUBLIC);
            StringBuilder one = new StringBuilder(method.getReturnType() + " " + method.getName() + "(");
            for (Class<?> type : method.getParameterTypes()) {
                one.append(one.charAt(one.length() - 1) == '(' ? "" : ",").append(type);
            }
            one.append(')');
            for (Class<?> type : method.getExceptionTypes()) {
                one.append(' ').append(type.getSimpleName());
            }
            got.add(one.toString());
            names.add(method.getName());
        }
        List<String> due = new ArrayList<>(Arrays.asList(DUE));
        Collections.sort(got);
        Collections.sort(due);
        CHECKS.due("methods", got, due);
        for (Method method : Regexloom.class.getDeclaredMethods()) {
            if (Modifier.isPrivate(method.getModifiers())) {
                CHECKS.due("no private name of a public one: " + method, names.contains(method.getName()), false);
            }
        }
        for (Constructor<?> made : Regexloom.class.getDeclaredConstructors()) {
            CHECKS.due("constructor", made.getParameterCount() + " " + made.getModifiers(), "0 " + Modifier.PUBLIC);
        }
        int seen = 0;
        for (Field field : Regexloom.class.getDeclaredFields()) {
            if (!Modifier.isPrivate(field.getModifiers())) {
                seen++;
                CHECKS.due("constant " + field, field.getInt(null), field.getName().equals("NONE") ? -1 : -2);
                CHECKS.due("constant " + field, field.getModifiers(),
                        Modifier.PUBLIC | Modifier.STATIC | Modifier.FINAL);
            }
        }
        CHECKS.due("constants", seen, 2);
        CHECKS.due("the class", Regexloom.class.getModifiers(), Modifier.PUBLIC | Modifier.FINAL);
        CHECKS.due("its classes", Regexloom.class.getDeclaredClasses().length <= 12, true);
        for (Class<?> inner : Regexloom.class.getDeclaredClasses()) {
            CHECKS.due("static: " + inner, Modifier.isStatic(inner.getModifiers()), true);
            CHECKS.due("not public: " + inner, Modifier.isPublic(inner.getModifiers()), false);
        }
        CHECKS.end("FaceTest");
    }
}
