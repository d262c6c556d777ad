import java.lang.reflect.Constructor;
import java.lang.reflect.Field;
import java.lang.reflect.Method;
import java.lang.reflect.Modifier;
import java.nio.file.Files;
import java.nio.file.Path;
import java.util.Arrays;
import java.util.Set;
import java.util.TreeSet;

/** The face of the document, and those rules of LANGUAGE.md that a look at the text can find broken. */
final class FaceTest {
    private static final String[] METHODS = {
        "house(int)", "person(int,int,int,int,boolean,int)", "told(int,int)", "age(int,int)", "dies(int,int)",
        "flees(int,int)", "back(int,int)", "there(int,int)", "kin(int,int)", "type(long,int)", "laws()",
        "must(int,int)", "fair(int,int)", "group(int)", "joins(int,int,int)", "leaves(int,int)",
        "groupOf(int,int)", "members(int,int)", "head(int,int)", "wants(int,int)", "wantsAt(int,int,int)",
        "stay(int,int,int,int)", "charged(int,int)", "whole(int)", "came(int)", "plea(int,int)",
        "about(int,int)", "judge(int)", "owes(int,int)", "pays(int,int)", "borne(int,int,int)", "count(int)",
        "sheet(int,int,int)", "drop(int)", "item(int,int,int,int)", "roll(int,int,int,int)", "leftOut(int)",
        "sure(int)"
    };
    private static final String[] CONSTANTS = {"BAD", "NOT", "FULL", "NONE", "NULL", "CAST", "INDEX", "SIZE"};
    private static final String[] RULED_OUT = {
        "throw", "throws", "try", "catch", "finally", "synchronized", "assert", "package", "protected", "hashCode",
        "Random", "Thread", "currentTimeMillis", "nanoTime", "getenv", "exit"
    };

    public static void main(String[] args) throws Exception {
        methods();
        constants();
        theText();
        Due.end();
    }

    private static void methods() {
        Set<String> found = new TreeSet<>();
        Set<String> open = new TreeSet<>();
        Set<String> hidden = new TreeSet<>();
        for (Method method : TenForOne.class.getDeclaredMethods()) {
            String parameters = String.join(",",
                Arrays.stream(method.getParameterTypes()).map(Class::getName).toArray(String[]::new));
            if (Modifier.isPublic(method.getModifiers())) {
                found.add(method.getName() + "(" + parameters + ")");
                open.add(method.getName());
                Due.due(method + " is static", Modifier.isStatic(method.getModifiers()) ? 1 : 0, 0);
                Due.due(method + " answers an int", method.getReturnType() == int.class ? 1 : 0, 1);
            } else {
                hidden.add(method.getName());
                Due.due(method + " is private", Modifier.isPrivate(method.getModifiers()) ? 1 : 0, 1);
            }
        }
        Due.due("the methods " + found, found.equals(new TreeSet<>(Arrays.asList(METHODS))) ? 1 : 0, 1);
        hidden.retainAll(open);
        Due.due("private methods with a public name " + hidden, hidden.size(), 0);
        Constructor<?>[] constructors = TenForOne.class.getDeclaredConstructors();
        Due.due("constructors", constructors.length, 1);
        Due.due("the constructor is public", Modifier.isPublic(constructors[0].getModifiers()) ? 1 : 0, 1);
        Due.due("the class is final", Modifier.isFinal(TenForOne.class.getModifiers()) ? 1 : 0, 1);
    }

    private static void constants() {
        Set<String> found = new TreeSet<>();
        for (Field field : TenForOne.class.getDeclaredFields()) {
            int as = field.getModifiers();
            if (Modifier.isPublic(as) && Modifier.isStatic(as) && Modifier.isFinal(as)) {
                found.add(field.getName());
            } else {
                Due.due(field + " is private", Modifier.isPrivate(as) ? 1 : 0, 1);
            }
            Due.due(field + " is no changing state of all", Modifier.isStatic(as) && !Modifier.isFinal(as) ? 1 : 0, 0);
        }
        Due.due("the constants " + found, found.equals(new TreeSet<>(Arrays.asList(CONSTANTS))) ? 1 : 0, 1);
        int[] values = {TenForOne.BAD, TenForOne.NOT, TenForOne.FULL, TenForOne.NONE, TenForOne.NULL, TenForOne.CAST,
            TenForOne.INDEX, TenForOne.SIZE};
        Due.due("the values", Arrays.equals(values, new int[] {-1, -2, -3, -4, -11, -12, -13, -14}) ? 1 : 0, 1);
    }

    private static void theText() throws Exception {
        String text = Files.readString(Path.of("src/main/java/TenForOne.java"));
        String code = text.replaceAll("(?s)/\\*.*?\\*/", " ").replaceAll("//[^\n]*", " ");
        Set<String> words = new TreeSet<>(Arrays.asList(code.split("[^A-Za-z0-9_]+")));
        for (String word : RULED_OUT) {
            Due.due("the text has " + word, words.contains(word) ? 1 : 0, 0);
        }
        for (String word : words) {
            Due.due("the text has " + word, word.endsWith("Exact") ? 1 : 0, 0);
        }
        String allowed = "java\\.util\\.(ArrayList|List|Arrays|Iterator);";
        Due.due("imports beside those of the lists", found(code, "import (?!" + allowed + ")"), 0);
        Due.due("System beside arraycopy", found(code, "\\bSystem\\b(?!\\.arraycopy)"), 0);
        Due.due("the text has ->", code.contains("->") ? 1 : 0, 0);
        Due.due("the text has ::", code.contains("::") ? 1 : 0, 0);
        Due.due("signs above 127", text.chars().filter(sign -> sign > 127).count(), 0);
        int classes = code.split("\\b(class|interface|enum|record)\\b", -1).length - 1;
        Due.due("classes " + classes + ", no more than some twelve", classes <= 14 ? 1 : 0, 1);
        int fields = 0;
        for (Field field : TenForOne.class.getDeclaredFields()) {
            fields += Modifier.isStatic(field.getModifiers()) ? 0 : 1;
        }
        Due.due("fields " + fields + ", no more than some twenty", fields <= 24 ? 1 : 0, 1);
    }

    private static int found(String code, String pattern) {
        return code.split(pattern, -1).length - 1;
    }
}
