import java.io.IOException;
import java.lang.reflect.Constructor;
import java.lang.reflect.Executable;
import java.lang.reflect.Field;
import java.lang.reflect.Member;
import java.lang.reflect.Method;
import java.lang.reflect.Modifier;
import java.nio.file.Files;
import java.nio.file.Path;
import java.util.ArrayList;
import java.util.List;
import java.util.Set;
import java.util.TreeSet;
import java.util.regex.Matcher;
import java.util.regex.Pattern;

/**
 * Compares the class with 'The public face' of ../shared/DOC.md, signature by signature, and looks for what some rules
 * of ../shared/LANGUAGE.md forbid, as far as it can be seen in the members and the words of the class.
 */
public final class FaceTest {
    private static final Path DOCUMENT = Path.of("..", "shared", "DOC.md");
    private static final Path SOURCE = Path.of("src", "main", "java", "InterleavedArchive.java");
    private static final int METHODS = 41;
    private static final int MOST_FIELDS = 22;
    private static final int MOST_CLASSES = 12;
    private static final int MOST_PARAMETERS = 7;
    private static final int MOST_LINES = 60;

    /** Words and signs of Java that the rules 1 to 13 leave out, or that this class has no need of. */
    private static final String[] FORBIDDEN = {"package", "catch", "try", "finally", "synchronized", "assert", "native",
        "volatile", "transient", "strictfp", "protected", "toString", "hashCode", "Exact", "System.out", "System.err",
        "nanoTime", "currentTimeMillis", "Random", "Thread", "->", "::", "while (true)", "for (;;)", "\" +", "+ \""};

    private static int looked = 0;
    private static int wrong = 0;

    private static void due(boolean right, String text) {
        looked++;
        if (!right) {
            wrong++;
            System.out.println(text);
        }
    }

    // ---- the face

    private static Set<String> faceOfDocument(String document) {
        int section = document.indexOf("## The public face");
        int from = document.indexOf("```java", section);
        String face = document.substring(from, document.indexOf("```", from + 3));
        Set<String> signatures = new TreeSet<>();
        Matcher matcher = Pattern.compile("^    public ([^;]+);", Pattern.MULTILINE).matcher(face);
        while (matcher.find()) {
            signatures.add(matcher.group(1));
        }
        return signatures;
    }

    private static String withoutParameterNames(String signature) {
        return signature.replaceAll("(\\w+) \\w+(?=[,)])(?=.*\\))", "$1");
    }

    private static String namesOf(Class<?>[] kinds) {
        List<String> names = new ArrayList<>();
        for (Class<?> kind : kinds) {
            names.add(kind.getSimpleName());
        }
        return String.join(", ", names);
    }

    private static String signatureOf(Executable member) {
        String head = member instanceof Method method ? method.getReturnType().getSimpleName() + " " + method.getName()
                : member.getDeclaringClass().getSimpleName();
        String thrown = namesOf(member.getExceptionTypes());
        return head + "(" + namesOf(member.getParameterTypes()) + ")" + (thrown.isEmpty() ? "" : " throws " + thrown);
    }

    private static Set<String> faceOfClass(Class<?> kind) {
        Set<String> signatures = new TreeSet<>();
        List<Executable> members = new ArrayList<>(List.of(kind.getDeclaredMethods()));
        members.addAll(List.of(kind.getDeclaredConstructors()));
        for (Executable member : members) {
            if (Modifier.isPublic(member.getModifiers())) {
                signatures.add(signatureOf(member));
            }
        }
        return signatures;
    }

    private static void dueFace(String document) {
        Set<String> want = new TreeSet<>();
        for (String signature : faceOfDocument(document)) {
            want.add(withoutParameterNames(signature));
        }
        Set<String> got = faceOfClass(InterleavedArchive.class);
        due(want.size() == METHODS + 1, "the document has " + want.size() + " members in its face");
        for (String signature : want) {
            due(got.contains(signature), "the class lacks " + signature);
        }
        for (String signature : got) {
            due(want.contains(signature), "the document does not name " + signature);
        }
    }

    // ---- the rules

    private static void dueMembers(Class<?> kind, Set<String> face) {
        boolean isOuter = kind == InterleavedArchive.class;
        int fields = 0;
        for (Field field : kind.getDeclaredFields()) {
            duePrivate(field, false);
            boolean isConstant = Modifier.isStatic(field.getModifiers());
            fields += isConstant ? 0 : 1;
            due(!isConstant || Modifier.isFinal(field.getModifiers()), "rule 5: " + field + " is static, not final");
        }
        due(fields <= MOST_FIELDS, "rule 11: " + kind + " has " + fields + " fields");
        for (Constructor<?> constructor : kind.getDeclaredConstructors()) {
            duePrivate(constructor, isOuter);
        }
        for (Method method : kind.getDeclaredMethods()) {
            duePrivate(method, isOuter);
            boolean isPublic = Modifier.isPublic(method.getModifiers());
            due(isPublic || !face.contains(method.getName()), "rule 1: " + method + " bears the name of a public one");
            due(method.getParameterCount() <= MOST_PARAMETERS, "rule 11: parameters of " + method);
        }
    }

    private static void duePrivate(Member member, boolean mayBePublic) {
        boolean right = Modifier.isPrivate(member.getModifiers())
                || mayBePublic && Modifier.isPublic(member.getModifiers()) && !Modifier.isStatic(member.getModifiers());
        due(right, "rule 1: " + member + " is neither private nor of the face");
    }

    private static void dueClasses() {
        Class<?> outer = InterleavedArchive.class;
        due(Modifier.isPublic(outer.getModifiers()), "the class is not public");
        due(Modifier.isFinal(outer.getModifiers()), "the class is not final");
        due(outer.getPackageName().isEmpty(), "the class has a package");
        due(outer.getSuperclass() == Object.class && outer.getInterfaces().length == 0, "the class extends another");
        Set<String> face = new TreeSet<>();
        for (Method method : outer.getDeclaredMethods()) {
            if (Modifier.isPublic(method.getModifiers())) {
                face.add(method.getName());
            }
        }
        due(outer.getDeclaredClasses().length < MOST_CLASSES, "rule 11: too many classes");
        dueMembers(outer, face);
        for (Class<?> inner : outer.getDeclaredClasses()) {
            due(Modifier.isStatic(inner.getModifiers()) && !Modifier.isPublic(inner.getModifiers())
                    && !Modifier.isProtected(inner.getModifiers()), "rule 1: " + inner + " is not static or public");
            dueMembers(inner, face);
        }
    }

    // ---- the words of the source

    private static String withoutComments(String source) {
        return source.replaceAll("(?s)/\\*.*?\\*/", "").replaceAll("//[^\n]*", "");
    }

    private static void dueWords(String source) {
        String code = withoutComments(source);
        for (String word : FORBIDDEN) {
            String bound = Character.isLetter(word.charAt(0)) && word.matches("[a-z]+") ? "\\b" : "";
            due(!Pattern.compile(bound + Pattern.quote(word) + bound).matcher(code).find(), "the source has " + word);
        }
        due(code.chars().allMatch(c -> c == '\n' || c >= 32 && c < 127), "rule 4: a sign that is not 32 to 126");
        Matcher imports = Pattern.compile("(?m)^import (.*);$").matcher(code);
        while (imports.find()) {
            due(imports.group(1).equals("java.util.NoSuchElementException"), "rule 4: imports " + imports.group(1));
        }
        Matcher thrown = Pattern.compile("throw (?!new \\w+\\(\"[^\"]*\"\\);)").matcher(code);
        due(!thrown.find(), "rule 6: throws otherwise than by throw new E(\"a written text\")");
    }

    /** A method ends with the brace that stands under its head. */
    private static void dueShortMethods(String source) {
        int length = 0;
        String indent = null;
        for (String line : source.split("\n")) {
            if (indent == null && line.matches(" {4,8}[^ @/*}].*\\(.*") && !line.contains("class ")
                    && !line.contains(";")) {
                indent = line.substring(0, line.length() - line.stripLeading().length());
                length = 0;
            }
            length++;
            if (indent != null && line.equals(indent + "}")) {
                due(length <= MOST_LINES, "rule 11: a method of " + length + " lines");
                indent = null;
            }
        }
        due(indent == null, "the end of a method was not found");
    }

    public static void main(String[] args) throws IOException {
        dueFace(Files.readString(DOCUMENT));
        dueClasses();
        String source = Files.readString(SOURCE);
        dueWords(source);
        dueShortMethods(source);
        System.out.println("the face and the rules: " + looked + " looked at, " + wrong + " wrong");
        if (wrong > 0) {
            System.exit(1);
        }
    }
}
