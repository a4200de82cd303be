import java.lang.reflect.Constructor;
import java.lang.reflect.Field;
import java.lang.reflect.Member;
import java.lang.reflect.Method;
import java.lang.reflect.Modifier;
import java.util.Arrays;
import java.util.List;
import java.util.Set;
import java.util.TreeSet;

/** The face is the document's and nothing else of the class can be seen (LANGUAGE.md, rule 1). */
public final class FaceTest {
    private static final String[] FACE = {
        "int write(long)", "int tune()", "int fault(boolean)", "boolean set(int,int,int)", "boolean vote(int,int)",
        "boolean limit(int)", "int mark(int,int,int)", "int clean(int)", "boolean turn(int,int)", "boolean swap(int,int)",
        "int enough(int)", "int better(int,boolean)", "int code(int)", "int part(int,int)", "int chip(int)",
        "int full(int,int)", "int leg(int,int)", "int heard(int,int)", "int behind(int,int)", "int match(int,int,int)",
        "int best(int,int,int)", "int fragile(int,int)", "int right(int)", "int joined(int,int)", "int found(int,int)",
        "int guess(int,int)", "int likely(int,int,boolean)", "int rank(int,int)", "int broken(int,int,int)", "int both(int)",
        "long chance(int,int,int,boolean)", "int bar(int,int)", "long metres(int,long)", "int longer(int,int,int)",
        "int needs(int,int)", "int track(int,int,int)", "int silent(int,int)", "boolean image(int)", "boolean again(int)",
    };

    private static int wrong = 0;

    public static void main(String[] args) {
        methods();
        fieldsAndConstructor();
        insideClasses();
        System.out.println(wrong == 0 ? "the face is the document's" : wrong + " faults of the face");
        if (wrong != 0) {
            System.exit(1);
        }
    }

    private static void check(boolean good, String what) {
        if (!good) {
            wrong++;
            System.out.println(what);
        }
    }

    private static boolean isPrivate(Member member) {
        return Modifier.isPrivate(member.getModifiers());
    }

    private static void methods() {
        Set<String> want = new TreeSet<>(Arrays.asList(FACE));
        Set<String> got = new TreeSet<>();
        Set<String> names = new TreeSet<>();
        for (String line : FACE) {
            names.add(line.substring(line.indexOf(' ') + 1, line.indexOf('(')));
        }
        for (Method method : RangeCodes.class.getDeclaredMethods()) {
            if (method.isSynthetic()) {
                continue;
            }
            if (isPrivate(method)) {
                check(!names.contains(method.getName()), "a private method bears a public one's name: " + method);
                continue;
            }
            StringBuilder types = new StringBuilder();
            for (Class<?> type : method.getParameterTypes()) {
                types.append(types.length() == 0 ? "" : ",").append(type.getName());
            }
            got.add(method.getReturnType().getName() + " " + method.getName() + "(" + types + ")");
            check(Modifier.isPublic(method.getModifiers()) && !Modifier.isStatic(method.getModifiers()), "not of the face: " + method);
        }
        check(got.equals(want), "the methods are " + got);
    }

    private static void fieldsAndConstructor() {
        check(Modifier.isPublic(RangeCodes.class.getModifiers()) && Modifier.isFinal(RangeCodes.class.getModifiers()), "public final");
        for (Field field : RangeCodes.class.getDeclaredFields()) {
            check(isPrivate(field) || field.isSynthetic() || field.getName().equals("NONE"), "can be seen: " + field);
            check(!Modifier.isStatic(field.getModifiers()) || Modifier.isFinal(field.getModifiers()), "static, not final: " + field);
        }
        Constructor<?>[] made = RangeCodes.class.getDeclaredConstructors();
        check(made.length == 1 && Modifier.isPublic(made[0].getModifiers()) && made[0].getParameterCount() == 0, "one constructor");
    }

    private static void insideClasses() {
        Class<?>[] inside = RangeCodes.class.getDeclaredClasses();
        check(inside.length <= 11, "too many classes");
        List<String> face = Arrays.asList(FACE);
        for (Class<?> one : inside) {
            check(Modifier.isStatic(one.getModifiers()) && !Modifier.isPublic(one.getModifiers()), "not static, or public: " + one);
            long own = Arrays.stream(one.getDeclaredFields()).filter(f -> !Modifier.isStatic(f.getModifiers())).count();
            check(own <= 20, "too many fields: " + one);
            for (Method method : one.getDeclaredMethods()) {
                check(face.stream().noneMatch(line -> line.contains(" " + method.getName() + "(")), "bears a public name: " + method);
                check(method.getParameterCount() <= 7, "too many parameters: " + method);
            }
        }
    }
}
