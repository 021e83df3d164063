import java.lang.reflect.Constructor;
import java.lang.reflect.Field;
import java.lang.reflect.Method;
import java.lang.reflect.Modifier;
import java.util.ArrayList;
import java.util.Arrays;
import java.util.Collections;
import java.util.List;

/** The public face of the document, and rule 1 of LANGUAGE.md: this face and nothing beside it. */
public final class FaceTest {
    private static final String[] FACE = {
        "long deposit(int,int) IndexOutOfBoundsException,IllegalArgumentException,IllegalStateException",
        "long withdraw(int,int) IndexOutOfBoundsException,IllegalArgumentException,IllegalStateException",
        "int grant(int,int,int) IndexOutOfBoundsException,IllegalArgumentException,IllegalStateException",
        "int order(int,int,int,int,int,int,int)"
            + " IndexOutOfBoundsException,IllegalArgumentException,IllegalStateException",
        "int cancel(int,int) IndexOutOfBoundsException,IllegalArgumentException,IllegalStateException",
        "int reduce(int,int,int) IndexOutOfBoundsException,IllegalArgumentException,IllegalStateException",
        "void until(int,int,int) IndexOutOfBoundsException,IllegalArgumentException,IllegalStateException",
        "int pass(int) IllegalArgumentException",
        "int best(int,int) IndexOutOfBoundsException,IllegalArgumentException,NoSuchElementException",
        "int depth(int,int,int) IndexOutOfBoundsException,IllegalArgumentException",
        "int level(int,int,int,int) IndexOutOfBoundsException,IllegalArgumentException",
        "int about(int,int) IndexOutOfBoundsException,IllegalArgumentException",
        "int ahead(int) IndexOutOfBoundsException,NoSuchElementException",
        "long cash(int,int) IndexOutOfBoundsException,IllegalArgumentException",
        "int shares(int,int,int) IndexOutOfBoundsException,IllegalArgumentException",
        "int count(int) IllegalArgumentException",
        "int trade(int,int) IndexOutOfBoundsException,IllegalArgumentException",
        "int symbol(int,int) IndexOutOfBoundsException,IllegalArgumentException",
        "int busiest(int,int) IndexOutOfBoundsException",
    };

    public static void main(String[] args) {
        Check.is("NONE", -1, () -> TradeHall.NONE);
        Check.is("the class is public and final", Modifier.PUBLIC | Modifier.FINAL,
            () -> TradeHall.class.getModifiers());
        methods();
        constructors();
        fields();
        Check.end();
    }

    private static void methods() {
        List<String> open = new ArrayList<>();
        List<String> names = new ArrayList<>();
        List<String> hidden = new ArrayList<>();
        for (Method method : TradeHall.class.getDeclaredMethods()) {
            if (Modifier.isPrivate(method.getModifiers())) {
                hidden.add(method.getName());
            } else {
                open.add(written(method));
                names.add(method.getName());
                Check.is(method.getName() + " is public", Modifier.PUBLIC, method::getModifiers);
            }
        }
        Collections.sort(open);
        List<String> due = new ArrayList<>(Arrays.asList(FACE));
        Collections.sort(due);
        Check.same("the face", due.toString(), open.toString());
        hidden.retainAll(names);
        Check.same("private methods with a public one's name", "[]", hidden.toString());
    }

    private static String written(Method method) {
        StringBuilder text = new StringBuilder();
        text.append(method.getReturnType()).append(' ').append(method.getName()).append('(');
        text.append(listed(method.getParameterTypes())).append(") ");
        return text.append(listed(method.getExceptionTypes())).toString();
    }

    private static String listed(Class<?>[] types) {
        List<String> names = new ArrayList<>();
        for (Class<?> type : types) {
            names.add(type.getSimpleName());
        }
        return String.join(",", names);
    }

    private static void constructors() {
        Constructor<?>[] all = TradeHall.class.getDeclaredConstructors();
        Check.is("how many constructors", 1, () -> all.length);
        Check.is("its parameters", 0, () -> all[0].getParameterCount());
        Check.is("it is public", Modifier.PUBLIC, () -> all[0].getModifiers());
    }

    private static void fields() {
        for (Field field : TradeHall.class.getDeclaredFields()) {
            boolean isPrivate = Modifier.isPrivate(field.getModifiers());
            Check.is(field.getName() + " is private", field.getName().equals("NONE") ? 0 : 1, () -> isPrivate ? 1 : 0);
        }
    }
}
