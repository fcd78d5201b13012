import java.lang.reflect.Constructor;
import java.lang.reflect.Field;
import java.lang.reflect.Method;
import java.lang.reflect.Modifier;
import java.nio.file.Files;
import java.nio.file.Path;
import java.util.TreeSet;
import java.util.regex.Matcher;
import java.util.regex.Pattern;

/** The public face, and the rules of LANGUAGE.md that can be read off the source. */
public final class FaceTest {
    private static final Check CHECK = new Check();
    private static final String[] METHODS = {
        "int write(int)", "int wipe()", "int fault()", "int meeting()", "int about(int)",
        "int member(int,int)", "int heard(int,int)", "int way(int,int)", "int join(int)",
        "int leave(int)", "int pass(int)", "int turn(int,int)", "int set(int,int)", "int undo()",
        "int ahead(int,int)", "int crowd(int)", "int jitter(int,long)", "int round(int,int,int)",
        "int judge(int,long)", "int see(int,int)", "int unsee()", "int which()",
        "int share(int,boolean)", "int chance(int,int,boolean)", "long seed(long)",
        "int drawn(int)", "int keep(int)", "int again(int)"};
    private static final String[] RULED_OUT = {
        "\\bthrow\\b", "\\btry\\b", "\\bcatch\\b", "\\bsynchronized\\b", "\\bassert\\b", "->", "::",
        "Exact\\b", "\\bimport\\b", "\\bpackage\\b", "\\bprotected\\b", "\\bSystem\\.(?!arraycopy)",
        "\\bhashCode\\b", "\\btoString\\b", "\\bnull\\b", "\\bstatic \\{", "\\bdouble\\b", "\\bfloat\\b",
        "while \\("};

    private static void members() {
        Class<?> face = CrowdReports.class;
        CHECK.holds("public and final", Modifier.isPublic(face.getModifiers()) && Modifier.isFinal(face.getModifiers()));
        TreeSet<String> want = new TreeSet<>(java.util.List.of(METHODS));
        TreeSet<String> got = new TreeSet<>();
        TreeSet<String> names = new TreeSet<>();
        for (Method m : face.getDeclaredMethods()) {
            if (!Modifier.isPrivate(m.getModifiers())) {
                CHECK.holds(m + " is public and of the object", m.getModifiers() == Modifier.PUBLIC);
                String whole = m.toString().replace("CrowdReports.", "");
                got.add(whole.substring("public ".length()));
                names.add(m.getName());
            }
        }
        CHECK.holds("the methods are those of the document: " + got, got.equals(want));
        ownNames(face, names);
        for (Class<?> inner : face.getDeclaredClasses()) {
            CHECK.holds(inner + " is static", Modifier.isStatic(inner.getModifiers()));
            ownNames(inner, names);
        }
        Constructor<?>[] made = face.getDeclaredConstructors();
        CHECK.due("constructors", made.length, 1);
        CHECK.due("its parameters", made[0].getParameterCount(), 0);
        CHECK.holds("it is public", Modifier.isPublic(made[0].getModifiers()));
    }

    private static void ownNames(Class<?> of, TreeSet<String> names) {
        for (Method m : of.getDeclaredMethods()) {
            if (!Modifier.isPublic(m.getModifiers())) {
                CHECK.holds(m + " bears no public name", !names.contains(m.getName()));
            }
            CHECK.holds(m + " has seven parameters at most", m.getParameterCount() <= 7);
        }
    }

    private static void fields() throws IllegalAccessException {
        String constants = "";
        int own = 0;
        for (Field f : CrowdReports.class.getDeclaredFields()) {
            int modifiers = f.getModifiers();
            if (Modifier.isPublic(modifiers)) {
                constants += f.getName() + "=" + f.getInt(null) + " ";
            } else {
                CHECK.holds(f + " is private", Modifier.isPrivate(modifiers));
            }
            CHECK.holds(f + ": static is final", !Modifier.isStatic(modifiers) || Modifier.isFinal(modifiers));
            own += Modifier.isStatic(modifiers) ? 0 : 1;
        }
        CHECK.holds(constants, constants.equals("UNKNOWN=-1 BAD=-2 LATE=-3 FULL=-4 NONE=-9 "));
        CHECK.holds("some twenty fields", own <= 20);
    }

    private static void source(Path file) throws java.io.IOException {
        String text = Files.readString(file);
        CHECK.holds("signs of the source are 1 .. 127", text.chars().allMatch(c -> c > 0 && c < 128));
        String code = text.replaceAll("(?s)/\\*.*?\\*/", "").replaceAll("//[^\n]*", "");
        for (String out : RULED_OUT) {
            Matcher found = Pattern.compile(out).matcher(code);
            CHECK.holds("ruled out: " + out, !found.find());
        }
        String made = code.replaceAll("= new (Crowd\\(\\)|Crowd\\[\\w+\\]|int\\[[\\w *]+\\]);", "");
        CHECK.holds("objects are made in fields and the constructor alone", !made.contains("new "));
        int length = 0;
        for (String line : code.split("\n")) {
            boolean head = line.matches(" {4}( {4})?[a-z].*\\) \\{");
            length = head && !line.trim().matches("(if|for|switch|else).*") ? 0 : length + 1;
            CHECK.holds("short methods", length <= 60 || !line.matches(" {4}( {4})?\\}"));
        }
    }

    public static void main(String[] args) throws Exception {
        members();
        fields();
        source(Path.of(args.length > 0 ? args[0] : ".", "src/main/java/CrowdReports.java"));
        CHECK.end();
    }
}
