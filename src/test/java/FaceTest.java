import java.lang.reflect.Constructor;
import java.lang.reflect.Field;
import java.lang.reflect.Member;
import java.lang.reflect.Method;
import java.lang.reflect.Modifier;
import java.nio.charset.StandardCharsets;
import java.nio.file.Files;
import java.nio.file.Path;
import java.util.ArrayList;
import java.util.Arrays;
import java.util.HashSet;
import java.util.List;
import java.util.Set;
import java.util.TreeSet;
import java.util.regex.Matcher;
import java.util.regex.Pattern;

/** The public face of the document, and those rules of ../shared/LANGUAGE.md that can be told from the outside. */
public final class FaceTest {
    private static final Check CHECK = new Check();
    private static final String[] FACE = {"setCorrection 2", "set 2", "addWall 0", "measure 2", "ask 4", "decide 1",
        "askAgain 1", "cast 0", "deliver 1", "take 1", "restore 1", "undo 0", "append 1", "clearText 0", "run 0",
        "count 1", "wall 2", "commission 2", "correction 1", "sine 1", "offset 2", "lines 2", "read 4", "apart 2",
        "reason 1", "bestLatitude 1", "melts 0"};
    private static final String[] CONSTANTS = {"INVALID_ARGUMENT", "ILLEGAL_STATE", "CAPACITY_EXCEEDED", "NONE"};
    private static final int[] VALUES = {-100001, -100002, -100003, -100009};

    public static void main(String[] args) throws Exception {
        constants();
        members();
        for (Class<?> inside : SundialWorks.class.getDeclaredClasses()) {
            classInside(inside);
        }
        source(Files.readString(Path.of("src/main/java/SundialWorks.java"), StandardCharsets.UTF_8));
        CHECK.end();
    }

    private static void constants() throws Exception {
        for (int i = 0; i < CONSTANTS.length; i++) {
            Field field = SundialWorks.class.getField(CONSTANTS[i]);
            CHECK.due(CONSTANTS[i], VALUES[i], field.getInt(null));
            CHECK.holds(CONSTANTS[i] + " is final", Modifier.isFinal(field.getModifiers()));
        }
    }

    private static void members() {
        int modifiers = SundialWorks.class.getModifiers();
        CHECK.holds("public and final", Modifier.isPublic(modifiers) && Modifier.isFinal(modifiers));
        Set<String> names = new HashSet<>();
        Set<String> face = new TreeSet<>();
        for (Method method : SundialWorks.class.getDeclaredMethods()) {
            if (Modifier.isPublic(method.getModifiers())) {
                names.add(method.getName());
                face.add(method.getName() + " " + method.getParameterCount());
                for (Class<?> type : method.getParameterTypes()) {
                    CHECK.holds(method + " takes int", type == int.class);
                }
                CHECK.holds(method + " answers int", method.getReturnType() == int.class);
            }
        }
        CHECK.holds("the public methods: " + face, face.equals(new TreeSet<>(Arrays.asList(FACE))));
        List<Member> all = new ArrayList<>(Arrays.asList(SundialWorks.class.getDeclaredFields()));
        all.addAll(Arrays.asList(SundialWorks.class.getDeclaredMethods()));
        all.addAll(Arrays.asList(SundialWorks.class.getDeclaredConstructors()));
        for (Member member : all) {
            boolean isPublic = Modifier.isPublic(member.getModifiers());
            CHECK.holds(member + " is public or private", isPublic || Modifier.isPrivate(member.getModifiers()));
            if (member instanceof Field && isPublic) {
                CHECK.holds(member + " is a constant", Arrays.asList(CONSTANTS).contains(member.getName()));
            }
            if (member instanceof Method && !isPublic) {
                CHECK.holds(member + " bears no public name", !names.contains(member.getName()));
            }
            if (member instanceof Constructor) {
                CHECK.holds("one public constructor", isPublic && ((Constructor<?>) member).getParameterCount() == 0);
            }
        }
    }

    private static void classInside(Class<?> inside) {
        int modifiers = inside.getModifiers();
        CHECK.holds(inside + " is static", Modifier.isStatic(modifiers));
        CHECK.holds(inside + " is not public", !Modifier.isPublic(modifiers) && !Modifier.isProtected(modifiers));
        int fields = 0;
        for (Field field : inside.getDeclaredFields()) {
            fields += Modifier.isStatic(field.getModifiers()) ? 0 : 1;
        }
        CHECK.holds(inside + " has some twenty fields", fields <= 20);
        for (Method method : inside.getDeclaredMethods()) {
            CHECK.holds(method + " takes at most seven", method.getParameterCount() <= 7);
            CHECK.holds(method + " is no public name", !Arrays.asList(FACE).contains(
                    method.getName() + " " + method.getParameterCount()));
        }
    }

    private static void source(String source) {
        for (char c : source.toCharArray()) {
            if (c > 127) {
                CHECK.holds("the sign " + (int) c, false);
            }
        }
        String code = source.replaceAll("(?s)/\\*.*?\\*/", "").replaceAll("//[^\n]*", "");
        Matcher forbidden = Pattern.compile("\\b(throw|throws|try|catch|finally|synchronized|assert|import|package"
                + "|protected|volatile|transient|native|double|float|var|Exception|Error|System\\.out|MAX_VALUE|MIN_VALUE"
                + "|hashCode|toString|\\w+Exact)\\b|->|::|@|\" *\\+|\\+ *\"").matcher(code);
        while (forbidden.find()) {
            CHECK.holds("no " + forbidden.group() + " in the class", false);
        }
        Matcher made = Pattern.compile("\\bnew (\\w+)").matcher(code);
        while (made.find()) {
            String line = code.substring(code.lastIndexOf('\n', made.start()) + 1, code.indexOf('\n', made.start()));
            // Rows are made once, with the object: in fields, or where a constructor fills an array.
            CHECK.holds("made with the object: " + line.trim(), line.contains(" final ") || line.contains("[i] = new "));
        }
        CHECK.holds("at most some twelve classes", code.split("\\bclass ", -1).length - 1 <= 12);
    }
}
