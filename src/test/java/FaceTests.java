import java.lang.reflect.Constructor;
import java.lang.reflect.Field;
import java.lang.reflect.Member;
import java.lang.reflect.Method;
import java.lang.reflect.Modifier;
import java.util.Arrays;
import java.util.TreeSet;

/** The class has the document's face and nothing else that can be seen from outside. */
public final class FaceTests {
    private static final String IAE = "IllegalArgumentException";
    private static final String NSE = "NoSuchElementException";
    private static final String UOE = "UnsupportedOperationException";
    private static final String ISE = "IllegalStateException";

    private static final String[] FACE = {
        "ProofGate(int)",
        "int seal(int,int,int,int,int,int,int,int)",
        "int submit(int,int,int,int,int) throws " + IAE + "," + UOE + "," + ISE,
        "void set(int,int,int,int)",
        "boolean revoke(int,int) throws " + NSE + "," + UOE + "," + ISE,
        "int pass(int)",
        "int step(int,int,int)",
        "int clear()",
        "int steps()",
        "int stepAt(int,int)",
        "int prove(int,int,int)",
        "boolean check(int,int,int)",
        "int request(int,int,int,int,boolean) throws " + IAE + "," + NSE + "," + UOE + "," + ISE,
        "boolean fuse(int)",
        "int owner(int)",
        "int credentials()",
        "boolean valid(int)",
        "int grants()",
        "int chain()",
    };

    private static boolean isSeen(Member member) {
        return !Modifier.isPrivate(member.getModifiers()) && !member.isSynthetic();
    }

    private static String list(Class<?>[] types) {
        StringBuilder text = new StringBuilder();
        for (Class<?> type : types) {
            text.append(text.length() == 0 ? "" : ",").append(type.getSimpleName());
        }
        return text.toString();
    }

    private static String thrown(Class<?>[] types) {
        return types.length == 0 ? "" : " throws " + list(types);
    }

    public static void main(String[] args) {
        TreeSet<String> seen = new TreeSet<>();
        for (Constructor<?> made : ProofGate.class.getDeclaredConstructors()) {
            if (isSeen(made)) {
                seen.add("ProofGate(" + list(made.getParameterTypes()) + ")" + thrown(made.getExceptionTypes()));
            }
        }
        TreeSet<String> publicNames = new TreeSet<>();
        TreeSet<String> privateNames = new TreeSet<>();
        for (Method method : ProofGate.class.getDeclaredMethods()) {
            if (isSeen(method)) {
                publicNames.add(method.getName());
                seen.add(method.getReturnType().getSimpleName() + " " + method.getName() + "("
                        + list(method.getParameterTypes()) + ")" + thrown(method.getExceptionTypes()));
                Due.is(method.getName() + " is public", Modifier.isPublic(method.getModifiers()), true);
                Due.is(method.getName() + " is static", Modifier.isStatic(method.getModifiers()), false);
            } else {
                privateNames.add(method.getName());
            }
        }
        for (Field field : ProofGate.class.getDeclaredFields()) {
            Due.is("field " + field.getName() + " is seen", isSeen(field), false);
        }
        for (Class<?> inside : ProofGate.class.getDeclaredClasses()) {
            Due.is(inside.getName() + " is static", Modifier.isStatic(inside.getModifiers()), true);
            Due.is(inside.getName() + " is public", Modifier.isPublic(inside.getModifiers()), false);
        }
        privateNames.retainAll(publicNames);
        Due.is("private methods with public names", privateNames.toString(), "[]");
        Due.is("the face", seen.toString(), new TreeSet<>(Arrays.asList(FACE)).toString());
        Due.is("final", Modifier.isFinal(ProofGate.class.getModifiers()), true);
        Due.finish();
    }
}
