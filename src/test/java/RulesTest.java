import java.io.IOException;
import java.lang.reflect.Member;
import java.lang.reflect.Modifier;
import java.nio.charset.StandardCharsets;
import java.nio.file.Files;
import java.nio.file.Path;
import java.util.ArrayList;
import java.util.Arrays;
import java.util.List;
import java.util.TreeSet;

/** What can be seen of ../shared/LANGUAGE.md and of the document's face from outside the program. */
public final class RulesTest {
    private static final List<String> WRONG = new ArrayList<>();
    private static final String[] BANNED = {
        "->", "::", "catch", "finally", "synchronized", "assert ", "static {", "getMessage", "Exact(", "hashCode",
        "equals(Object", "System.out", "Math.random", "nanoTime", "currentTimeMillis", "double", "float",
        "protected ", "instanceof", "HashMap", "@Override", "String.format", "\" +", "+ \"",
    };

    private static void check(boolean isGood, String what) {
        if (!isGood) {
            WRONG.add(what);
        }
    }

    private static List<String> face() throws IOException {
        List<String> face = new ArrayList<>();
        boolean isIn = false;
        for (String line : Files.readAllLines(Path.of("../shared/DOC.md"))) {
            if (line.startsWith("```")) {
                isIn = line.equals("```java");
            } else if (isIn && line.startsWith("    public ")) {
                face.add(line.trim().replace(";", ""));
            }
        }
        return face;
    }

    private static void checkMembers(List<String> face) {
        TreeSet<String> names = new TreeSet<>();
        for (String line : face) {
            names.add(line.substring(0, line.indexOf('(')).replaceAll(".* ", ""));
        }
        names.remove("Patchstore");
        TreeSet<String> publics = new TreeSet<>();
        List<Member> members = new ArrayList<>(Arrays.asList(Patchstore.class.getDeclaredMethods()));
        members.addAll(Arrays.asList(Patchstore.class.getDeclaredFields()));
        for (Member member : members) {
            if (Modifier.isPublic(member.getModifiers())) {
                publics.add(member.getName());
            } else {
                check(Modifier.isPrivate(member.getModifiers()), member + " is neither public nor private");
            }
        }
        check(publics.equals(names), "public are " + publics + ", not " + names);
        for (Class<?> inner : Patchstore.class.getDeclaredClasses()) {
            check(Modifier.isStatic(inner.getModifiers()), inner + " is not static");
            checkInner(inner, names);
        }
        check(Patchstore.class.getDeclaredClasses().length <= 11, "too many classes");
    }

    private static void checkInner(Class<?> inner, TreeSet<String> names) {
        for (Member method : inner.getDeclaredMethods()) {
            check(!names.contains(method.getName()), method + " bears the name of a public one");
        }
        long fields = Arrays.stream(inner.getDeclaredFields())
            .filter(field -> !Modifier.isStatic(field.getModifiers())).count();
        check(fields <= 20, inner + " has " + fields + " fields");
    }

    private static void checkMethodLengths(List<String> source) {
        int start = 0;
        for (int k = 0; k < source.size(); k++) {
            String line = source.get(k);
            if (line.matches("( {4}| {8})[a-zA-Z].*\\) (throws .*)?\\{")) {
                start = k;
            }
            if (line.matches("( {4}| {8})\\}")) {
                check(k - start < 60, "a method that ends in line " + (k + 1) + " is too long");
            }
        }
    }

    public static void main(String[] args) throws IOException {
        String text = Files.readString(Path.of("src/main/java/Patchstore.java"), StandardCharsets.US_ASCII);
        List<String> face = face();
        check(face.size() == 49, "the document's face has " + face.size() + " members");
        for (String line : face) {
            check(text.contains("    " + line + " {\n"), "not as in the document: " + line);
        }
        checkMembers(face);
        for (String word : BANNED) {
            check(!text.contains(word), "there is " + word);
        }
        for (String line : text.split("\n")) {
            check(!line.startsWith("import ") || line.equals("import java.util.Arrays;"), line);
        }
        checkMethodLengths(Arrays.asList(text.split("\n")));
        WRONG.forEach(System.out::println);
        if (!WRONG.isEmpty()) {
            System.exit(1);
        }
        System.out.println("RulesTest: nothing outside the rules was seen");
    }
}
