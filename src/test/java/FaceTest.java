import java.lang.reflect.Constructor;
import java.lang.reflect.Field;
import java.lang.reflect.Method;
import java.lang.reflect.Modifier;
import java.util.ArrayList;
import java.util.Arrays;
import java.util.HashSet;
import java.util.List;
import java.util.Set;
import java.util.TreeSet;

/** The public face of the document, and the rules of LANGUAGE.md that can be seen from the compiled classes. */
public final class FaceTest {
    private static final String[] FACE = {
        "int sample() IllegalStateException",
        "int append(int,int) IndexOutOfBoundsException,IllegalArgumentException,IllegalStateException",
        "int byteAt(int,int) IndexOutOfBoundsException,NoSuchElementException",
        "boolean setAside(int,boolean) IndexOutOfBoundsException",
        "int setLimit(int) IllegalArgumentException",
        "int likeness(int,int) IndexOutOfBoundsException",
        "int classOf(int) IndexOutOfBoundsException,UnsupportedOperationException",
        "boolean isOutlier(int) IndexOutOfBoundsException,UnsupportedOperationException",
        "long word(int,int,int,boolean) IndexOutOfBoundsException,IllegalArgumentException,NoSuchElementException",
        "int centre(int) IndexOutOfBoundsException,UnsupportedOperationException",
        "int columns(int) IndexOutOfBoundsException,UnsupportedOperationException",
        "int cell(int,int) IndexOutOfBoundsException,UnsupportedOperationException,NoSuchElementException",
        "char judge(int,int) IndexOutOfBoundsException,UnsupportedOperationException,NoSuchElementException",
        "int relations(int) IndexOutOfBoundsException,UnsupportedOperationException",
        "char kindOf(int,int) IndexOutOfBoundsException,UnsupportedOperationException,NoSuchElementException",
        "int detail(int,int,char) IndexOutOfBoundsException,UnsupportedOperationException,"
            + "IllegalArgumentException,NoSuchElementException",
        "int claim(int,int) IndexOutOfBoundsException,UnsupportedOperationException,"
            + "NoSuchElementException,IllegalStateException",
        "boolean stands(int) IndexOutOfBoundsException",
        "int rests(int) IndexOutOfBoundsException",
        "int mask(int) IndexOutOfBoundsException,NoSuchElementException",
        "int unpacked(int) IndexOutOfBoundsException,NoSuchElementException",
        "int variety(int) IndexOutOfBoundsException",
        "int type(char) IllegalArgumentException,IllegalStateException",
        "int clear() ",
        "int describe() IllegalArgumentException,IllegalStateException",
        "int edit(int) IndexOutOfBoundsException,IllegalArgumentException",
        "int find(int) IndexOutOfBoundsException,UnsupportedOperationException,"
            + "NoSuchElementException,IllegalStateException",
        "char signAt(int,int) IndexOutOfBoundsException,NoSuchElementException",
        "int read(int,int) IndexOutOfBoundsException",
        "int fields(int,int) IndexOutOfBoundsException",
        "int fieldAt(int,int,int) IndexOutOfBoundsException,NoSuchElementException",
        "int fieldSize(int,int,int) IndexOutOfBoundsException,NoSuchElementException",
        "int cost(int) IndexOutOfBoundsException",
        "int best() NoSuchElementException",
        "int differ(int,int) IndexOutOfBoundsException",
        "int mutant(int,int,int,int) IndexOutOfBoundsException,IllegalArgumentException,"
            + "UnsupportedOperationException,IllegalStateException",
        "int cover(int) IndexOutOfBoundsException",
        "int answer(int,boolean) IndexOutOfBoundsException",
        "boolean isPossible(int) IndexOutOfBoundsException",
        "int question() NoSuchElementException",
        "int send(int,int,int) IndexOutOfBoundsException,IllegalArgumentException,IllegalStateException",
        "boolean isEcho(int,int) IllegalArgumentException",
        "boolean isCounter(int) IllegalArgumentException",
        "int states(int) IllegalArgumentException",
        "boolean canFollow(int,int,int,int) IndexOutOfBoundsException,IllegalArgumentException",
        "long checksum() ",
        "float readShare(int) IndexOutOfBoundsException,ArithmeticException",
        "double meanLength() ArithmeticException",
        "boolean isSound() ",
    };

    public static void main(String[] args) {
        publicFace();
        nothingElse();
        insides();
        Check.end();
    }

    private static String joined(Class<?>[] types) {
        List<String> names = new ArrayList<>();
        for (Class<?> type : types) {
            names.add(type.getSimpleName());
        }
        return String.join(",", names);
    }

    private static void publicFace() {
        Set<String> told = new TreeSet<>();
        for (Method method : Formatseer.class.getDeclaredMethods()) {
            if (!Modifier.isPrivate(method.getModifiers())) {
                told.add(method.getReturnType().getSimpleName() + " " + method.getName() + "("
                        + joined(method.getParameterTypes()) + ") " + joined(method.getExceptionTypes()));
                Check.due("face: " + method.getName(), Modifier.PUBLIC, method::getModifiers);
            }
        }
        Check.due("face", new TreeSet<>(Arrays.asList(FACE)), () -> told);
    }

    private static void nothingElse() {
        Check.due("the class", Modifier.PUBLIC | Modifier.FINAL, Formatseer.class::getModifiers);
        Constructor<?>[] constructors = Formatseer.class.getDeclaredConstructors();
        Check.due("one constructor", 1, () -> constructors.length);
        Check.due("it is public", Modifier.PUBLIC, () -> constructors[0].getModifiers());
        Check.due("it throws nothing", 0, () -> constructors[0].getExceptionTypes().length);
        for (Field field : Formatseer.class.getDeclaredFields()) {
            Check.due("field " + field.getName(), true, () -> Modifier.isPrivate(field.getModifiers()));
        }
    }

    private static void insides() {
        Set<String> names = new HashSet<>();
        for (String one : FACE) {
            names.add(one.substring(one.indexOf(' ') + 1, one.indexOf('(')));
        }
        List<Class<?>> all = new ArrayList<>(List.of(Formatseer.class.getDeclaredClasses()));
        Check.due("some twelve classes", true, () -> all.size() <= 12);
        for (Class<?> inside : all) {
            Check.due(inside.getSimpleName(), true, () -> Modifier.isStatic(inside.getModifiers()));
        }
        all.add(Formatseer.class);
        for (Class<?> one : all) {
            int fields = 0;
            for (Field field : one.getDeclaredFields()) {
                fields += Modifier.isStatic(field.getModifiers()) ? 0 : 1;
                Check.due("static is final: " + field, true,
                        () -> !Modifier.isStatic(field.getModifiers()) || Modifier.isFinal(field.getModifiers()));
            }
            int count = fields;
            Check.due("some twenty fields: " + one.getSimpleName(), true, () -> count <= 20);
            for (Method method : one.getDeclaredMethods()) {
                Check.due("parameters of " + method, true, () -> method.getParameterCount() <= 7);
                boolean isFace = one == Formatseer.class && Modifier.isPublic(method.getModifiers());
                Check.due("name of " + method, true, () -> isFace || !names.contains(method.getName()));
            }
        }
    }
}
