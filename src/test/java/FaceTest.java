import java.io.IOException;
import java.lang.management.ManagementFactory;
import java.lang.reflect.Constructor;
import java.lang.reflect.Field;
import java.lang.reflect.Method;
import java.lang.reflect.Modifier;
import java.nio.charset.StandardCharsets;
import java.nio.file.Files;
import java.nio.file.Path;
import java.util.ArrayList;
import java.util.Arrays;
import java.util.List;
import java.util.Set;
import java.util.TreeSet;
import java.util.regex.Matcher;
import java.util.regex.Pattern;

/** The public face, and what can be seen of LANGUAGE.md by reflection, in the source, and in what a run makes. */
public final class FaceTest {
    private static final Path DOCUMENT = Path.of("../shared/DOC.md");
    private static final Path SOURCE = Path.of("src/main/java/BlobHarbor.java");
    // An object takes 16 bytes or more, and an element one or more, so this stays under both numbers of the room.
    private static final long MOST_BYTES_OF_A_RUN = 7_000_000;
    private static final int CALLS_OF_A_ROUND = 10;

    private final Check check = new Check("FaceTest");

    public static void main(String[] args) throws IOException {
        FaceTest test = new FaceTest();
        test.face();
        test.hiddenMembers();
        test.nestedClasses();
        test.words();
        test.shape();
        test.memory();
        test.check.end();
    }

    private void face() throws IOException {
        Set<String> due = new TreeSet<>();
        Matcher lines = Pattern.compile("(?m)^    public (.*);$").matcher(Files.readString(DOCUMENT));
        while (lines.find()) {
            due.add(lines.group(1).replaceAll("(int|boolean|char) \\w+([,)])", "$1$2"));
        }
        Set<String> got = new TreeSet<>();
        for (Field field : BlobHarbor.class.getDeclaredFields()) {
            if (Modifier.isPublic(field.getModifiers())) {
                got.add("static final int " + field.getName() + " = " + constant(field));
                check.is(field + " is final", Modifier.isFinal(field.getModifiers()), true);
            }
        }
        for (Constructor<?> made : BlobHarbor.class.getConstructors()) {
            got.add("BlobHarbor(" + names(made.getParameterTypes(), ", ") + ")");
        }
        for (Method method : BlobHarbor.class.getDeclaredMethods()) {
            if (Modifier.isPublic(method.getModifiers())) {
                String thrown = names(method.getExceptionTypes(), ", ");
                got.add(method.getReturnType().getSimpleName() + " " + method.getName() + "("
                        + names(method.getParameterTypes(), ", ") + ")" + (thrown.isEmpty() ? "" : " throws " + thrown));
            }
        }
        check.is("the face", String.join("\n", got), String.join("\n", due));
        check.is("members of the face", due.size(), 33);
        check.is("final", Modifier.isFinal(BlobHarbor.class.getModifiers()), true);
    }

    private static int constant(Field field) {
        try {
            return field.getInt(null);
        } catch (IllegalAccessException e) {
            throw new IllegalStateException(e);
        }
    }

    private static String names(Class<?>[] classes, String between) {
        List<String> all = new ArrayList<>();
        for (Class<?> one : classes) {
            all.add(one.getSimpleName());
        }
        return String.join(between, all);
    }

    private void hiddenMembers() {
        Set<String> open = new TreeSet<>();
        for (Method method : BlobHarbor.class.getMethods()) {
            open.add(method.getName());
        }
        List<Class<?>> all = new ArrayList<>(List.of(BlobHarbor.class.getDeclaredClasses()));
        all.add(BlobHarbor.class);
        for (Class<?> one : all) {
            for (Method method : one.getDeclaredMethods()) {
                if (method.isSynthetic()) {
                    continue;
                }
                boolean isFace = one == BlobHarbor.class && Modifier.isPublic(method.getModifiers());
                boolean isHidden = one != BlobHarbor.class || Modifier.isPrivate(method.getModifiers());
                check.is(method + " is of the face or hidden", isFace || isHidden, true);
                boolean isPrivate = Modifier.isPrivate(method.getModifiers());
                check.is(method + " bears a name of its own", isPrivate && open.contains(method.getName()), false);
                check.is(method + " has at most seven parameters", method.getParameterCount() <= 7, true);
            }
            int fields = 0;
            for (Field field : one.getDeclaredFields()) {
                int is = field.getModifiers();
                check.is(field + " is hidden", one != BlobHarbor.class || Modifier.isPrivate(is)
                        || Modifier.isPublic(is) && Modifier.isStatic(is), true);
                check.is(field + ", static, is final", !Modifier.isStatic(is) || Modifier.isFinal(is), true);
                fields += Modifier.isStatic(is) ? 0 : 1;
            }
            check.is(one + " has few fields", fields <= 20, true);
        }
    }

    private void nestedClasses() {
        Class<?>[] nested = BlobHarbor.class.getDeclaredClasses();
        check.is("classes in the file", nested.length + 1 <= 12, true);
        for (Class<?> one : nested) {
            int is = one.getModifiers();
            check.is(one + " is hidden", Modifier.isPublic(is) || Modifier.isProtected(is), false);
        }
    }

    private void words() throws IOException {
        String source = Files.readString(SOURCE, StandardCharsets.ISO_8859_1);
        String code = source.replaceAll("(?s)/\\*.*?\\*/", "").replaceAll("//[^\n]*", "").replaceAll("\"[^\"\n]*\"", "\"\"");
        String[] ruledOut = {"(?m)^(?!.*\\b(?:case|default)\\b).*->", "::", "\\bsynchronized\\b", "\\bassert\\b",
            "\\bfinally\\b", "(?m)^ *package\\b", "\\bSystem\\.(?!arraycopy)", "\\b\\w+Exact\\(", "\\bhashCode\\b",
            "(?m)^ *static *\\{", "\\bArrays\\.(?!fill\\(|copyOf\\(|copyOfRange\\()",
            "\\bimport (?!java\\.util\\.(?:ArrayList|List|Arrays|Iterator|NoSuchElementException);)"};
        for (String word : ruledOut) {
            Matcher found = Pattern.compile(word).matcher(code);
            check.is("the source holds " + word, found.find(), false);
        }
        Matcher thrown = Pattern.compile("throw ([^;]*);").matcher(code);
        while (thrown.find()) {
            check.is("throw " + thrown.group(1), thrown.group(1).matches(
                    "new (IndexOutOfBounds|IllegalArgument|IllegalState|Arithmetic|UnsupportedOperation|NoSuchElement|Runtime)"
                    + "Exception\\((\"\")?\\)"), true);
        }
        for (int i = 0; i < source.length(); i++) {
            char sign = source.charAt(i);
            if (sign > 126 || sign < 32 && sign != '\n') {
                check.tell("the source holds the sign " + (int) sign);
            }
        }
    }

    private void shape() throws IOException {
        int began = 0;
        List<String> lines = Files.readAllLines(SOURCE);
        for (int i = 0; i < lines.size(); i++) {
            String line = lines.get(i);
            if (line.matches(" {4,8}\\S.*\\{")) {
                began = line.contains(" class ") ? i : line.matches(" {4,8}(?!class).*\\) ?.*\\{") ? i : began;
            }
            if (line.matches(" {4,8}\\}") && !lines.get(began).contains(" class ")) {
                check.is("the method of line " + (began + 1) + " is short", i - began <= 60, true);
            }
        }
    }

    /** A run that stores, follows, loses and mends as much as it can, and looks at the dearest calls all the time. */
    private static void dearRun() {
        BlobHarbor x = new BlobHarbor();
        for (int i = 0; i < 512 / CALLS_OF_A_ROUND; i++) {
            x.clear();
            x.draft(i * 7 % 16, i % 16, 40);
            try {
                x.put(i % 2, 1 + i % 4, -1);
            } catch (IllegalStateException e) {
                x.agrees(0);
            }
            x.follow(0, 99);
            x.follow(1, 99);
            x.agrees(i % 2);
            x.areAlike();
            x.mend(i % 2, 99);
            x.list(0, 0, 0, 200);
        }
    }

    private void memory() {
        java.lang.management.ThreadMXBean bean = ManagementFactory.getThreadMXBean();
        if (!(bean instanceof com.sun.management.ThreadMXBean)) {
            return;
        }
        com.sun.management.ThreadMXBean counter = (com.sun.management.ThreadMXBean) bean;
        long[] made = new long[5];
        for (int i = 0; i < made.length; i++) {
            long before = counter.getThreadAllocatedBytes(Thread.currentThread().getId());
            dearRun();
            made[i] = counter.getThreadAllocatedBytes(Thread.currentThread().getId()) - before;
        }
        Arrays.sort(made);
        long most = made[made.length - 1];
        System.out.println("FaceTest: a dear run makes " + most + " bytes of objects");
        check.is("a run makes few objects", most < MOST_BYTES_OF_A_RUN, true);
    }
}
