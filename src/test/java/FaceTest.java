import java.lang.reflect.Constructor;
import java.lang.reflect.Field;
import java.lang.reflect.Member;
import java.lang.reflect.Method;
import java.lang.reflect.Modifier;
import java.util.ArrayList;
import java.util.Arrays;
import java.util.List;
import java.util.TreeSet;

/** The public face: each method with its parameters and what it may throw, and nothing else. */
public final class FaceTest {
    private static final String[] DUE = {
        "int crew() ISE",
        "int skater(int,int,int) IOOBE IAE ISE",
        "int transfer(int,int,int) IOOBE UOE",
        "int told(int,int,char) IOOBE IAE",
        "int rating(int) IOOBE",
        "int rank(int) IOOBE",
        "int game(int,int) IOOBE IAE UOE",
        "int line(int,int,int) IOOBE ISE",
        "int start() ISE UOE",
        "int end() ISE",
        "int clock() ISE",
        "int nextPeriod() ISE UOE",
        "int timeout(int) IOOBE ISE UOE",
        "int score(int) IOOBE ISE",
        "int finish() ISE UOE",
        "int order(int,int,int,int) IOOBE IAE ISE",
        "int go(int) IAE ISE",
        "char block(int,int,int,char,char) IOOBE IAE ISE UOE",
        "char penalty(int,int,char) IOOBE IAE ISE UOE",
        "char passStar(int) IOOBE ISE UOE",
        "char callOff(int) IOOBE ISE UOE",
        "char comeBack(int,int) IOOBE ISE UOE",
        "int events()",
        "char eventAt(int) IOOBE",
        "int correct(int) ISE IOOBE IAE",
        "int review(int,int,boolean) IOOBE ISE IAE UOE",
        "int place(int,int) IOOBE ISE",
        "int lane(int,int) IOOBE ISE",
        "char standing(int,int) IOOBE ISE",
        "int left(int,int) IOOBE ISE NSEE",
        "int fouls(int,int) IOOBE ISE",
        "int marks(int,int,char) IOOBE ISE IAE",
        "int star(int) IOOBE ISE",
        "int pack() ISE",
        "int packEnd(boolean) ISE NSEE",
        "boolean isInZone(int,int) IOOBE ISE",
        "int splitBy() ISE NSEE",
        "int lead() ISE NSEE",
        "int points(int) IOOBE ISE",
        "int passes(int) IOOBE ISE",
        "boolean hasPassed(int,int,int) IOOBE ISE",
        "boolean isOver() ISE",
        "int seconds() ISE",
        "int signal(int,int,int) IOOBE IAE ISE",
        "int official(int) IOOBE ISE NSEE",
        "int jams()",
        "int jamPoints(int,int) IOOBE",
        "long checksum() ISE",
        "float leadShare(int) IOOBE NSEE",
        "double meanPoints() NSEE",
        "boolean isSound()",
    };

    private FaceTest() {
    }

    public static void main(String[] args) {
        TreeSet<String> names = new TreeSet<>();
        List<String> got = new ArrayList<>();
        for (Method method : Jamhouse.class.getDeclaredMethods()) {
            if (Modifier.isPublic(method.getModifiers())) {
                got.add(row(method));
                names.add(method.getName());
            } else {
                checkPrivate(method);
            }
        }
        for (Method method : Jamhouse.class.getDeclaredMethods()) {
            Check.isTrue(method + " bears no name of a public one",
                    Modifier.isPublic(method.getModifiers()) || !names.contains(method.getName()));
        }
        List<String> want = new ArrayList<>(Arrays.asList(DUE));
        got.sort(null);
        want.sort(null);
        Check.due("the methods", String.join("\n", got), String.join("\n", want));
        Check.due("the number of methods", want.size(), 51);
        Check.isTrue("the class is public and final",
                Modifier.isPublic(Jamhouse.class.getModifiers()) && Modifier.isFinal(Jamhouse.class.getModifiers()));
        for (Field field : Jamhouse.class.getDeclaredFields()) {
            checkPrivate(field);
            Check.isTrue(field + " static is final",
                    !Modifier.isStatic(field.getModifiers()) || Modifier.isFinal(field.getModifiers()));
        }
        Constructor<?>[] constructors = Jamhouse.class.getDeclaredConstructors();
        Check.due("constructors", constructors.length, 1);
        Check.due("the constructor's parameters", constructors[0].getParameterCount(), 0);
        Check.isTrue("the constructor is public", Modifier.isPublic(constructors[0].getModifiers()));
        for (Class<?> inside : Jamhouse.class.getDeclaredClasses()) {
            Check.isTrue(inside + " is static", Modifier.isStatic(inside.getModifiers()));
            Check.isFalse(inside + " is public", Modifier.isPublic(inside.getModifiers()));
        }
        Check.close("FaceTest");
    }

    private static void checkPrivate(Member member) {
        Check.isTrue(member + " is private", Modifier.isPrivate(member.getModifiers()));
    }

    private static String row(Method method) {
        StringBuilder row = new StringBuilder();
        row.append(method.getReturnType().getSimpleName()).append(' ').append(method.getName()).append('(');
        String between = "";
        for (Class<?> type : method.getParameterTypes()) {
            row.append(between).append(type.getSimpleName());
            between = ",";
        }
        row.append(')');
        for (Class<?> type : method.getExceptionTypes()) {
            row.append(' ').append(type.getSimpleName().replaceAll("[a-z]", ""));
        }
        return row.toString();
    }
}
