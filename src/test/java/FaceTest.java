import java.lang.reflect.Constructor;
import java.lang.reflect.Field;
import java.lang.reflect.Member;
import java.lang.reflect.Method;
import java.lang.reflect.Modifier;
import java.nio.file.Files;
import java.nio.file.Path;
import java.util.Arrays;
import java.util.Set;
import java.util.TreeSet;
import java.util.regex.Matcher;
import java.util.regex.Pattern;
import java.util.stream.Collectors;

/** The face as the document has it, and rules of the language that a test can see. */
public final class FaceTest {
    private static final Path DOCUMENT = Path.of("../shared/DOC.md");
    private static final Path SOURCE = Path.of("src/main/java/StorageLedger.java");
    private static final Pattern FACE = Pattern.compile("```java\\n(.*?)```", Pattern.DOTALL);
    private static final Pattern MEMBER = Pattern.compile("    public (.*);");
    private static final Pattern OUTLAWED = Pattern.compile(
            "->|::|\\b(import|package|try|catch|finally|synchronized|assert|protected|double|var"
            + "|instanceof|lambda|native|volatile|transient)\\b|\\w+Exact\\b");

    public static void main(String[] args) throws Exception {
        faceIsTheDocuments();
        nothingElseCanBeSeen();
        insideNoNameOfTheFace();
        fieldsAreFewAndStaticOnesFinal();
        sourceKeepsToTheLanguage();
        Check.end("FaceTest");
    }

    private static void faceIsTheDocuments() throws Exception {
        Matcher face = FACE.matcher(Files.readString(DOCUMENT));
        Set<String> due = new TreeSet<>();
        if (face.find()) {
            Matcher member = MEMBER.matcher(face.group(1));
            while (member.find()) {
                due.add(withoutNames(member.group(1)));
            }
        }
        Check.same("members of the document", due.size(), 6 + 1 + 56);
        Set<String> got = new TreeSet<>();
        for (Field field : StorageLedger.class.getFields()) {
            got.add("static final int " + field.getName() + " = " + field.getInt(null));
        }
        for (Constructor<?> constructor : StorageLedger.class.getConstructors()) {
            got.add("StorageLedger" + types(constructor.getParameterTypes(), "(", ")"));
        }
        for (Method method : StorageLedger.class.getDeclaredMethods()) {
            if (Modifier.isPublic(method.getModifiers())) {
                got.add(method.getReturnType().getSimpleName() + " " + method.getName()
                        + types(method.getParameterTypes(), "(", ")")
                        + types(method.getExceptionTypes(), " throws ", ""));
            }
        }
        Check.same("the face", got, due);
        Check.same("the class is final", Modifier.isFinal(StorageLedger.class.getModifiers()), true);
        Check.same("no class above", StorageLedger.class.getSuperclass(), Object.class);
    }

    private static String types(Class<?>[] types, String before, String behind) {
        if (types.length == 0 && !before.equals("(")) {
            return "";
        }
        return before + Arrays.stream(types).map(Class::getSimpleName).collect(
                Collectors.joining(", ")) + behind;
    }

    private static String withoutNames(String member) {
        return member.replaceAll("\\bint \\w+(?=[,)])", "int");
    }

    private static void nothingElseCanBeSeen() {
        for (Member member : members(StorageLedger.class)) {
            int modifiers = member.getModifiers();
            Check.same(member.getName() + " is public or private",
                    Modifier.isPublic(modifiers) || Modifier.isPrivate(modifiers), true);
        }
        for (Class<?> inside : StorageLedger.class.getDeclaredClasses()) {
            Check.same(inside.getName() + " is static and private",
                    Modifier.isStatic(inside.getModifiers())
                    && Modifier.isPrivate(inside.getModifiers()), true);
        }
        Check.same("classes", StorageLedger.class.getDeclaredClasses().length + 1 <= 12, true);
    }

    private static Member[] members(Class<?> of) {
        Set<Member> all = new java.util.LinkedHashSet<>();
        all.addAll(Arrays.asList(of.getDeclaredFields()));
        all.addAll(Arrays.asList(of.getDeclaredMethods()));
        all.addAll(Arrays.asList(of.getDeclaredConstructors()));
        return all.toArray(new Member[0]);
    }

    private static void insideNoNameOfTheFace() {
        Set<String> names = new TreeSet<>();
        for (Method method : StorageLedger.class.getDeclaredMethods()) {
            if (Modifier.isPublic(method.getModifiers())) {
                Check.same(method.getName() + " has its name alone", names.add(method.getName()), true);
            }
        }
        for (Method method : StorageLedger.class.getDeclaredMethods()) {
            Check.same(method.getName() + " is of the face or has another name",
                    Modifier.isPublic(method.getModifiers()) || !names.contains(method.getName()), true);
        }
        for (Class<?> inside : StorageLedger.class.getDeclaredClasses()) {
            for (Method method : inside.getDeclaredMethods()) {
                Check.same(inside.getSimpleName() + "." + method.getName() + " has another name",
                        names.contains(method.getName()), false);
                Check.same(method.getName() + " has few parameters",
                        method.getParameterCount() <= 7, true);
            }
        }
    }

    private static void fieldsAreFewAndStaticOnesFinal() {
        fieldsOf(StorageLedger.class);
        for (Class<?> inside : StorageLedger.class.getDeclaredClasses()) {
            fieldsOf(inside);
        }
    }

    private static void fieldsOf(Class<?> of) {
        int own = 0;
        for (Field field : of.getDeclaredFields()) {
            if (Modifier.isStatic(field.getModifiers())) {
                Check.same(field.getName() + " is final", Modifier.isFinal(field.getModifiers()), true);
            } else {
                own++;
            }
        }
        Check.same(of.getSimpleName() + " has few fields", own <= 20, true);
    }

    private static void sourceKeepsToTheLanguage() throws Exception {
        int number = 0;
        for (String line : Files.readAllLines(SOURCE)) {
            number++;
            String code = line.replaceAll("//.*|^\\s*/?\\*.*", "").replaceAll("\"[^\"]*\"", "");
            Check.same("line " + number + " keeps to the language: " + line.trim(),
                    OUTLAWED.matcher(code).find(), false);
        }
    }
}
