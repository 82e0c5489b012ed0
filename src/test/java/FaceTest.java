import java.io.IOException;
import java.lang.reflect.Constructor;
import java.lang.reflect.Field;
import java.lang.reflect.Method;
import java.lang.reflect.Modifier;
import java.nio.file.Files;
import java.nio.file.Path;
import java.util.ArrayList;
import java.util.Collections;
import java.util.HashSet;
import java.util.List;
import java.util.Set;

/** The public face is that of the document, and the source keeps to what a test can see of LANGUAGE.md. */
public final class FaceTest {
    private static final String[] METHODS = {
        "int addChild(int, int)", "int removeChild(int)", "int children()", "int age(int)", "int isAdmitted(int)",
        "int hours(int)", "int book(int, int, int, int)", "int nextMonth()", "int waited(int)", "int points(int)",
        "int waiting(int)", "int admit()", "int release(int)", "int addEducator()", "int removeEducator(int)",
        "int educators()", "int work(int, int, int, int)", "int setHoliday(int, int, boolean)",
        "int setRatio(int, int)", "int setRoomLimit(int)", "int present(int, int)", "int need(int, int)",
        "int staff(int, int)", "int unsafeHours()", "double load(int)", "int setRate(int, int)", "int fee(int)",
        "int income()", "int familyFeeIfAdmitted(int)", "int addSubstitute(int, int, int)", "int shortage(int, int)",
        "int cover(int)", "int coverOf(int)", "int cheapestHoliday(int)", "int type(int)", "int clearText()",
        "int loadBookings(int)", "long digest()"};
    private static final String[] FORBIDDEN = {
        "\\bimport\\b", "\\bpackage\\b", "\\btry\\b", "\\bcatch\\b", "\\bfinally\\b", "\\bsynchronized\\b",
        "\\bassert\\b", "->", "::", "\\bprotected\\b", "\\bSystem\\.(?!arraycopy)", "\\bObject\\b",
        "\\bThread\\b", "\\bMath\\.random\\b", "Exact\\b", "\\bstatic\\s*\\{", "\\bnative\\b"};

    private static final Checks CHECKS = new Checks();

    public static void main(String[] args) throws IOException {
        Class<KindergartenPlanner> face = KindergartenPlanner.class;
        CHECKS.holds("public final class", face.getModifiers() == (Modifier.PUBLIC | Modifier.FINAL));
        CHECKS.due("BAD", KindergartenPlanner.BAD, -1);
        CHECKS.due("STATE", KindergartenPlanner.STATE, -2);
        CHECKS.due("FULL", KindergartenPlanner.FULL, -3);
        CHECKS.due("NONE", KindergartenPlanner.NONE, -9);
        checkConstructor(face);
        checkFields(face);
        checkMethods(face);
        CHECKS.holds("the test is given the source's path", args.length == 1);
        if (args.length == 1) {
            checkSource(Files.readString(Path.of(args[0])));
        }
        CHECKS.end();
    }

    private static void checkConstructor(Class<?> face) {
        Constructor<?>[] all = face.getDeclaredConstructors();
        CHECKS.due("constructors", all.length, 1);
        CHECKS.due("parameters of the constructor", all[0].getParameterCount(), 0);
        CHECKS.holds("a public constructor", Modifier.isPublic(all[0].getModifiers()));
    }

    private static void checkFields(Class<?> face) {
        Set<String> constants = new HashSet<>(List.of("BAD", "STATE", "FULL", "NONE"));
        for (Field field : face.getDeclaredFields()) {
            int modifiers = field.getModifiers();
            boolean isConstant = constants.remove(field.getName());
            boolean isPublic = modifiers == (Modifier.PUBLIC | Modifier.STATIC | Modifier.FINAL);
            CHECKS.holds("the access of " + field.getName(),
                isConstant ? isPublic : Modifier.isPrivate(modifiers));
            CHECKS.holds("a static field is final: " + field.getName(),
                !Modifier.isStatic(modifiers) || Modifier.isFinal(modifiers));
        }
        CHECKS.due("missing constants", constants.size(), 0);
    }

    private static void checkMethods(Class<?> face) {
        List<String> found = new ArrayList<>();
        Set<String> publicNames = new HashSet<>();
        for (String method : METHODS) {
            publicNames.add(method.substring(method.indexOf(' ') + 1, method.indexOf('(')));
        }
        for (Method method : face.getDeclaredMethods()) {
            if (Modifier.isPublic(method.getModifiers())) {
                found.add(signature(method));
            } else {
                CHECKS.holds("private: " + method.getName(), Modifier.isPrivate(method.getModifiers()));
                CHECKS.holds("a name of its own: " + method.getName(), !publicNames.contains(method.getName()));
            }
        }
        for (Class<?> inside : face.getDeclaredClasses()) {
            CHECKS.holds("static: " + inside.getName(), Modifier.isStatic(inside.getModifiers()));
            CHECKS.holds("not public: " + inside.getName(), !Modifier.isPublic(inside.getModifiers()));
            for (Method method : inside.getDeclaredMethods()) {
                CHECKS.holds("a name of its own: " + method.getName(), !publicNames.contains(method.getName()));
            }
        }
        List<String> wanted = new ArrayList<>(List.of(METHODS));
        Collections.sort(wanted);
        Collections.sort(found);
        CHECKS.holds("the methods of the document: " + found, found.equals(wanted));
    }

    private static String signature(Method method) {
        List<String> types = new ArrayList<>();
        for (Class<?> type : method.getParameterTypes()) {
            types.add(type.getName());
        }
        return method.getReturnType().getName() + " " + method.getName() + "(" + String.join(", ", types) + ")";
    }

    private static void checkSource(String source) {
        String code = source.replaceAll("(?s)/\\*.*?\\*/", "").replaceAll("//[^\n]*", "");
        for (String forbidden : FORBIDDEN) {
            CHECKS.holds("nothing in the source that matches " + forbidden,
                !java.util.regex.Pattern.compile(forbidden).matcher(code).find());
        }
        CHECKS.holds("signs 1 to 127 in the source", source.chars().allMatch(sign -> sign >= 1 && sign <= 127));
    }
}
