import java.io.IOException;
import java.lang.reflect.Constructor;
import java.lang.reflect.Field;
import java.lang.reflect.Method;
import java.lang.reflect.Modifier;
import java.nio.file.Files;
import java.nio.file.Path;
import java.util.ArrayList;
import java.util.List;
import java.util.TreeSet;

/** The public face is the document's and no more; the source keeps to some rules of LANGUAGE.md. */
public final class FaceTest {
    private static final String[] FACE = {
        "int write(int)", "int wipe()", "int fault()", "int coast()", "int ground(int,int)", "int child(int,int)",
        "int knows(int,int)", "int day()", "int set(int,int)", "int moor(int)", "int put(int)", "int undo()",
        "int ahead(int,int,int)", "int later(int,int,int)", "int enough(int,int,int)", "int best(int,int,int)",
        "int fit()", "int judge(int,long)", "int knew(int,int,int)", "int forget()", "int began()",
        "int share(int,int,boolean)", "int rests(int,int,int)", "int fails(int,int,int,int,int,boolean)",
        "long seed(long)", "int generations(int)", "int keep(int)", "int again(int)", "int count(int)"};

    public static void main(String[] args) throws IOException {
        members();
        insideClasses();
        source();
        Due.end();
    }

    private static String told(Method m) {
        List<String> types = new ArrayList<>();
        for (Class<?> type : m.getParameterTypes()) {
            types.add(type.getName());
        }
        return m.getReturnType().getName() + " " + m.getName() + "(" + String.join(",", types) + ")";
    }

    private static void members() {
        TreeSet<String> seen = new TreeSet<>();
        for (Method m : PotSchools.class.getDeclaredMethods()) {
            if (!Modifier.isPrivate(m.getModifiers())) {
                seen.add(told(m));
            }
        }
        Due.same("the face", seen.toString(), new TreeSet<>(List.of(FACE)).toString());
        TreeSet<String> constants = new TreeSet<>();
        for (Field f : PotSchools.class.getDeclaredFields()) {
            if (!Modifier.isPrivate(f.getModifiers())) {
                constants.add(f.getName());
            }
            Due.holds("static " + f.getName() + " is final",
                !Modifier.isStatic(f.getModifiers()) || Modifier.isFinal(f.getModifiers()));
        }
        Due.same("the constants", constants.toString(), "[FULL, NONE, OUTSIDE, STATE, UNKNOWN]");
        Due.is("UNKNOWN", PotSchools.UNKNOWN, -1);
        Due.is("OUTSIDE", PotSchools.OUTSIDE, -2);
        Due.is("STATE", PotSchools.STATE, -3);
        Due.is("FULL", PotSchools.FULL, -4);
        Due.is("NONE", PotSchools.NONE, -9);
        Constructor<?>[] made = PotSchools.class.getDeclaredConstructors();
        Due.is("constructors", made.length, 1);
        Due.holds("it is public, without parameters",
            Modifier.isPublic(made[0].getModifiers()) && made[0].getParameterCount() == 0);
        Due.holds("final", Modifier.isFinal(PotSchools.class.getModifiers()));
    }

    private static void insideClasses() {
        TreeSet<String> face = new TreeSet<>();
        for (String method : FACE) {
            face.add(method.replaceAll(".* |\\(.*", ""));
        }
        List<Class<?>> all = new ArrayList<>(List.of(PotSchools.class.getDeclaredClasses()));
        for (Class<?> inside : all) {
            Due.holds(inside + " is static", Modifier.isStatic(inside.getModifiers()));
            for (Method m : inside.getDeclaredMethods()) {
                Due.holds(inside + "." + m.getName() + " has a name of its own", !face.contains(m.getName()));
            }
        }
        all.add(PotSchools.class);
        for (Class<?> any : all) {
            for (Method m : any.getDeclaredMethods()) {
                Due.holds(m + " has seven parameters at most", m.getParameterCount() <= 7);
                Due.holds(m.getName() + " bears no name of the face",
                    !Modifier.isPrivate(m.getModifiers()) || !face.contains(m.getName()));
            }
            long fields = List.of(any.getDeclaredFields()).stream()
                .filter(f -> !Modifier.isStatic(f.getModifiers())).count();
            Due.holds(any + " has twenty fields at most", fields <= 20);
        }
    }

    private static void source() throws IOException {
        String code = Files.readString(Path.of("src/main/java/PotSchools.java"))
            .replaceAll("(?s)/\\*.*?\\*/", "").replaceAll("//[^\n]*", "");
        String[] words = {"throw", "throws", "try", "catch", "synchronized", "assert", "import", "package", "Object",
            "System", "Random", "Thread", "yield", "var"};
        for (String word : words) {
            Due.holds("no word " + word, !code.matches("(?s).*\\b" + word + "\\b.*"));
        }
        Due.holds("no lambda, no method reference", !code.contains("->") && !code.contains("::"));
        Due.holds("no joining of texts", !code.contains("\""));
        for (String line : code.split("\n")) {
            Due.holds("line is not too long: " + line, line.length() <= 120);
        }
    }
}
