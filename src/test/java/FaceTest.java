import java.lang.reflect.Constructor;
import java.lang.reflect.Field;
import java.lang.reflect.Method;
import java.lang.reflect.Modifier;
import java.util.Arrays;
import java.util.Set;
import java.util.TreeSet;

/** Promises 1 to 43: the face has the document's members and no other one that can be seen from outside. */
public final class FaceTest {
    private static final Check CHECK = new Check();

    private static final String[] DUE = {
        "int card(int,int,int,int,char) IllegalArgumentException UnsupportedOperationException IllegalStateException",
        "int setPack(int,int) IndexOutOfBoundsException IllegalArgumentException",
        "int turn(int,boolean) IllegalArgumentException",
        "int at(int) IndexOutOfBoundsException",
        "int twist(int) IndexOutOfBoundsException",
        "int mostTwist()",
        "int slip(int,int) IndexOutOfBoundsException IllegalArgumentException",
        "int pick() UnsupportedOperationException IllegalStateException",
        "int unweave() UnsupportedOperationException",
        "int picks()",
        "int colour(int,int,boolean) IndexOutOfBoundsException",
        "boolean isIdle(int,int) IndexOutOfBoundsException",
        "int longestFloat(int) IndexOutOfBoundsException",
        "int draw(char,int,int) IllegalArgumentException",
        "int type(char) IllegalArgumentException IllegalStateException",
        "int wipe()",
        "int motto(boolean,int,int) IndexOutOfBoundsException IllegalArgumentException UnsupportedOperationException",
        "int setInk(boolean,int) IllegalArgumentException",
        "int setGround(boolean,int) IllegalArgumentException",
        "int wanted(int,int,boolean) IndexOutOfBoundsException IllegalArgumentException",
        "int pairs(int) IndexOutOfBoundsException",
        "boolean canPlan(int,int) IndexOutOfBoundsException IllegalArgumentException",
        "int reversals(int,int) IndexOutOfBoundsException IllegalArgumentException NoSuchElementException",
        "char planAt(int,int,int) IndexOutOfBoundsException IllegalArgumentException NoSuchElementException",
        "int weave(int) IllegalArgumentException UnsupportedOperationException",
        "int faults(boolean)",
        "int faultsOf(int) IndexOutOfBoundsException",
        "int firstFault() NoSuchElementException",
        "int suspect() NoSuchElementException",
        "long ways(int,int,int,boolean) IndexOutOfBoundsException IllegalArgumentException",
        "int yarn(int) IllegalArgumentException",
        "int kinds()",
        "int weaver(int) IllegalArgumentException IllegalStateException",
        "int hand() NoSuchElementException",
        "int order(int,int,int) IllegalArgumentException IllegalStateException",
        "int readyOn(int) IndexOutOfBoundsException",
        "int brings()",
        "int bringsMost()",
        "long checksum()",
        "float rightShare() ArithmeticException",
        "double meanTwist() ArithmeticException",
        "boolean isSound()",
    };

    public static void main(String[] args) {
        Class<?> face = Bothfaces.class;
        CHECK.same("the class is public and final", face.getModifiers(), Modifier.PUBLIC | Modifier.FINAL);
        hasTheConstructor(face);
        hasTheMethods(face);
        hidesTheRest(face);
        CHECK.end();
    }

    private static void hasTheConstructor(Class<?> face) {
        Constructor<?>[] all = face.getDeclaredConstructors();
        CHECK.same("constructors", all.length, 1);
        CHECK.same("the constructor is public", all[0].getModifiers(), Modifier.PUBLIC);
        CHECK.same("parameters of the constructor", all[0].getParameterCount(), 0);
    }

    private static void hasTheMethods(Class<?> face) {
        Set<String> seen = new TreeSet<>();
        Set<String> publicNames = new TreeSet<>();
        for (Method method : face.getDeclaredMethods()) {
            if (Modifier.isPublic(method.getModifiers())) {
                seen.add(textOf(method));
                publicNames.add(method.getName());
            }
        }
        Set<String> due = new TreeSet<>(Arrays.asList(DUE));
        for (String text : due) {
            CHECK.yes("the face has " + text, seen.contains(text));
        }
        for (String text : seen) {
            CHECK.yes("the document has " + text, due.contains(text));
        }
        for (Method method : face.getDeclaredMethods()) {
            CHECK.yes("private names are others than public ones: " + method.getName(),
                    Modifier.isPublic(method.getModifiers()) || !publicNames.contains(method.getName()));
        }
    }

    private static String textOf(Method method) {
        StringBuilder text = new StringBuilder();
        text.append(method.getReturnType().getName()).append(' ').append(method.getName()).append('(');
        String gap = "";
        for (Class<?> type : method.getParameterTypes()) {
            text.append(gap).append(type.getName());
            gap = ",";
        }
        text.append(')');
        for (Class<?> type : method.getExceptionTypes()) {
            text.append(' ').append(type.getSimpleName());
        }
        return text.toString();
    }

    private static void hidesTheRest(Class<?> face) {
        for (Method method : face.getDeclaredMethods()) {
            int modifiers = method.getModifiers();
            CHECK.yes("public or private: " + method.getName(),
                    Modifier.isPublic(modifiers) || Modifier.isPrivate(modifiers));
        }
        for (Field field : face.getDeclaredFields()) {
            int modifiers = field.getModifiers();
            CHECK.yes("private: " + field.getName(), Modifier.isPrivate(modifiers));
            CHECK.yes("static only if final: " + field.getName(),
                    !Modifier.isStatic(modifiers) || Modifier.isFinal(modifiers));
        }
        for (Class<?> inner : face.getDeclaredClasses()) {
            int modifiers = inner.getModifiers();
            CHECK.yes("static: " + inner.getName(), Modifier.isStatic(modifiers));
            CHECK.no("seen from outside: " + inner.getName(),
                    Modifier.isPublic(modifiers) || Modifier.isProtected(modifiers));
        }
    }
}
