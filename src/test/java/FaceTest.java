import java.lang.reflect.Constructor;
import java.lang.reflect.Field;
import java.lang.reflect.Method;
import java.lang.reflect.Modifier;
import java.util.Set;
import java.util.TreeSet;

/** The public face: the members of the document, and no other that is not private. */
public final class FaceTest {
    private static final Check CHECK = new Check("face");

    public static void main(String[] args) {
        constants();
        membersAreThoseOfTheDocument();
        namesAreNotUsedTwice();
        CHECK.end();
    }

    private static void constants() {
        CHECK.due("NONE", FundBook.NONE, -1);
        CHECK.due("RANGE", FundBook.RANGE, -2);
        CHECK.due("STATE", FundBook.STATE, -3);
        CHECK.due("FULL", FundBook.FULL, -4);
        CHECK.due("BAND", FundBook.BAND, -5);
        CHECK.due("CURRENCY", FundBook.CURRENCY, -6);
    }

    private static void membersAreThoseOfTheDocument() {
        Set<String> want = Set.of(
            "int NONE", "int RANGE", "int STATE", "int FULL", "int BAND", "int CURRENCY",
            "FundBook(int)", "int fund(int)", "int give(int,long)", "int order(int,int,boolean)",
            "int approve(int,int)", "long invoice(int,int,int,int)", "int cancel(int)", "int band(int)",
            "int currency(int,int,int,int)", "int transfer(int,int,int)", "int agree(int,int)",
            "int row(int,int)", "int post() IllegalStateException", "int failing()", "int close()",
            "long about(int,int)", "long told(int,int)", "long sum(int)");
        Set<String> got = openMembers();
        for (String member : want) {
            CHECK.due("has " + member, got.contains(member) ? 1 : 0, 1);
        }
        for (String member : got) {
            CHECK.due("may have " + member, want.contains(member) ? 1 : 0, 1);
        }
        CHECK.due("the class is public and final", FundBook.class.getModifiers(), Modifier.PUBLIC | Modifier.FINAL);
    }

    private static Set<String> openMembers() {
        Set<String> open = new TreeSet<>();
        for (Field field : FundBook.class.getDeclaredFields()) {
            if (!Modifier.isPrivate(field.getModifiers())) {
                open.add(field.getType().getSimpleName() + " " + field.getName());
            }
        }
        for (Constructor<?> made : FundBook.class.getDeclaredConstructors()) {
            if (!Modifier.isPrivate(made.getModifiers())) {
                open.add("FundBook" + types(made.getParameterTypes()));
            }
        }
        for (Method method : FundBook.class.getDeclaredMethods()) {
            if (!Modifier.isPrivate(method.getModifiers())) {
                open.add(signature(method));
            }
        }
        return open;
    }

    private static String signature(Method method) {
        StringBuilder text = new StringBuilder(method.getReturnType().getSimpleName());
        text.append(' ').append(method.getName()).append(types(method.getParameterTypes()));
        for (Class<?> thrown : method.getExceptionTypes()) {
            text.append(' ').append(thrown.getSimpleName());
        }
        return text.toString();
    }

    private static String types(Class<?>[] classes) {
        StringBuilder text = new StringBuilder("(");
        for (int i = 0; i < classes.length; i++) {
            text.append(i == 0 ? "" : ",").append(classes[i].getSimpleName());
        }
        return text.append(")").toString();
    }

    private static void namesAreNotUsedTwice() {
        Set<String> names = new TreeSet<>();
        for (Method method : FundBook.class.getDeclaredMethods()) {
            CHECK.due("only one method " + method.getName(), names.add(method.getName()) ? 1 : 0, 1);
        }
    }
}
