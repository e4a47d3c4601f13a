import java.io.IOException;
import java.lang.reflect.Constructor;
import java.lang.reflect.Executable;
import java.lang.reflect.Field;
import java.lang.reflect.Method;
import java.lang.reflect.Modifier;
import java.lang.reflect.Parameter;
import java.nio.file.Files;
import java.nio.file.Path;
import java.util.ArrayList;
import java.util.List;

/**
 * Holds the declarations of the class against "The public face" of the document, no more and no fewer:
 * those that were compiled (with -parameters, for the names), and those that the source's text shows.
 * The face is written out here, so that the test does not rest on the document's form alone.
 */
public final class DeclarationTest {
    private static final Due DUE = new Due("DeclarationTest");
    private static final String HEAD = "public final class MixinUnits {";
    private static final String[] FACE = {
        "public MixinUnits()",
        "public int type(int kind, int first, int second)"
            + " throws IllegalArgumentException, IndexOutOfBoundsException, IllegalStateException",
        "public int leaf(boolean isRef, int number)"
            + " throws IllegalArgumentException, IllegalStateException",
        "public int expression(int kind, int first, int second, int third)"
            + " throws IllegalArgumentException, IndexOutOfBoundsException, IllegalStateException",
        "public int unit() throws IllegalStateException",
        "public int version(int unit) throws IndexOutOfBoundsException, IllegalStateException",
        "public void setType(int unit, int name, int type)"
            + " throws IndexOutOfBoundsException, IllegalArgumentException",
        "public void setValue(int unit, int name, int type, int expression, int flags)"
            + " throws IndexOutOfBoundsException, IllegalArgumentException",
        "public boolean remove(int unit, int name)"
            + " throws IndexOutOfBoundsException, IllegalArgumentException",
        "public int unitNode(int unit, int version)"
            + " throws IndexOutOfBoundsException, IllegalStateException",
        "public int node(int kind, int first, int second, boolean isGenerative)"
            + " throws IllegalArgumentException, IndexOutOfBoundsException, IllegalStateException",
        "public int choose(int first, int second, int third)"
            + " throws IndexOutOfBoundsException, IllegalStateException",
        "public int rename(int node, int name, int to)"
            + " throws IndexOutOfBoundsException, IllegalArgumentException, IllegalStateException",
        "public int error(int node) throws IndexOutOfBoundsException",
        "public int typeOf(int node, int name)"
            + " throws IndexOutOfBoundsException, IllegalArgumentException, IllegalStateException",
        "public boolean isSameType(int node, int name, int other, int otherName)"
            + " throws IndexOutOfBoundsException, IllegalArgumentException, IllegalStateException",
        "public int valueOf(int node, int name)"
            + " throws IndexOutOfBoundsException, IllegalArgumentException, IllegalStateException",
        "public int size(int node, int name)"
            + " throws IndexOutOfBoundsException, IllegalArgumentException, IllegalStateException",
        "public int run(int node) throws IndexOutOfBoundsException",
        "public int result(int name, int place)"
            + " throws IllegalArgumentException, IllegalStateException, IndexOutOfBoundsException",
        "public int logged()",
        "public int log(int place) throws IndexOutOfBoundsException",
        "public int total()",
        "public int dropped()",
        "public int build(int node) throws IndexOutOfBoundsException",
        "public int compiled(int node) throws IndexOutOfBoundsException",
        "public boolean isFresh(int node) throws IndexOutOfBoundsException"
    };

    public static void main(String[] args) throws IOException {
        List<String> due = List.of(FACE);
        Path document = Path.of("../shared/DOC.md");
        if (Files.exists(document)) {
            same("in the document", documentFace(Files.readString(document)), due);
        }
        heads();
        same("compiled", compiledFace(), due);
        same("in the source", sourceFace(Files.readString(Path.of("src/main/java/MixinUnits.java"))), due);
        hidden();
        DUE.end();
    }

    private static void same(String where, List<String> got, List<String> due) {
        for (String member : due) {
            DUE.is("declared " + where + ": " + member, count(got, member), 1);
        }
        for (String member : got) {
            DUE.is("due, as it is declared " + where + ": " + member, count(due, member), 1);
        }
    }

    private static int count(List<String> members, String member) {
        int found = 0;
        for (String other : members) {
            found += other.equals(member) ? 1 : 0;
        }
        return found;
    }

    /** The members that the document's block of Java shows, one blank between words, without the semicolon. */
    private static List<String> documentFace(String text) {
        List<String> found = new ArrayList<>();
        int begin = text.indexOf(HEAD, text.indexOf("## The public face"));
        int end = text.indexOf("```", begin);
        DUE.is("the document shows the face", begin > 0 && end > begin, true);
        for (String line : text.substring(begin + HEAD.length(), end).split("\n")) {
            String member = line.replaceAll("\\s+", " ").trim();
            if (member.endsWith(";")) {
                found.add(member.substring(0, member.length() - 1));
            }
        }
        return found;
    }

    private static void heads() {
        Class<?> made = MixinUnits.class;
        DUE.is("the class is public and final", made.getModifiers(), Modifier.PUBLIC | Modifier.FINAL);
        DUE.is("it is no other one's", made.getSuperclass() == Object.class, true);
        DUE.is("interfaces", made.getInterfaces().length, 0);
        DUE.is("open types", made.getTypeParameters().length, 0);
    }

    /** All constructors and methods of the class that are not private, as the document would write them. */
    private static List<String> compiledFace() {
        List<String> found = new ArrayList<>();
        for (Constructor<?> made : MixinUnits.class.getDeclaredConstructors()) {
            found.add(words(made, "", "MixinUnits"));
        }
        for (Method method : MixinUnits.class.getDeclaredMethods()) {
            if (!Modifier.isPrivate(method.getModifiers())) {
                found.add(words(method, method.getGenericReturnType().getTypeName() + " ", method.getName()));
            }
        }
        return found;
    }

    private static String words(Executable member, String result, String name) {
        List<String> parameters = new ArrayList<>();
        for (Parameter parameter : member.getParameters()) {
            DUE.is("compiled with -parameters: " + name, parameter.isNamePresent(), true);
            parameters.add(parameter.toString());
        }
        List<String> thrown = new ArrayList<>();
        for (Class<?> exception : member.getExceptionTypes()) {
            boolean isPlain = exception.getPackageName().equals("java.lang");
            thrown.add(isPlain ? exception.getSimpleName() : exception.getName());
        }
        String modifiers = Modifier.toString(member.getModifiers());
        return modifiers + (modifiers.isEmpty() ? "" : " ") + result + name + "(" + String.join(", ", parameters) + ")"
            + (thrown.isEmpty() ? "" : " throws " + String.join(", ", thrown));
    }

    /** The heads of all members that the source's text shows as public, in the document's form. */
    private static List<String> sourceFace(String text) {
        List<String> found = new ArrayList<>();
        String bare = text.replaceAll("(?s)/\\*.*?\\*/", "").replaceAll("//[^\n]*", "");
        DUE.is("head of the class", bare.contains("\n" + HEAD + "\n"), true);
        for (String piece : bare.split("\n    (?=\\w)")) {
            if (piece.startsWith("public ")) {
                int end = piece.indexOf('{');
                found.add((end < 0 ? piece : piece.substring(0, end)).replaceAll("\\s+", " ").trim());
            }
        }
        return found;
    }

    /** All else in the class is private, and the classes inside it are static and for it alone. */
    private static void hidden() {
        List<String> shown = new ArrayList<>();
        for (Method method : MixinUnits.class.getDeclaredMethods()) {
            if (!Modifier.isPrivate(method.getModifiers())) {
                shown.add(method.getName());
            }
        }
        for (Method method : MixinUnits.class.getDeclaredMethods()) {
            if (Modifier.isPrivate(method.getModifiers())) {
                DUE.is("a private method with a public one's name: " + method.getName(),
                    shown.contains(method.getName()), false);
            }
        }
        for (Field field : MixinUnits.class.getDeclaredFields()) {
            DUE.is("private: " + field.getName(), Modifier.isPrivate(field.getModifiers()), true);
        }
        for (Class<?> inside : MixinUnits.class.getDeclaredClasses()) {
            int modifiers = inside.getModifiers();
            DUE.is("static: " + inside.getName(), Modifier.isStatic(modifiers), true);
            boolean isShown = Modifier.isPublic(modifiers) || Modifier.isProtected(modifiers);
            DUE.is("not shown: " + inside.getName(), isShown, false);
        }
    }
}
