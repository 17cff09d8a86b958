import java.io.IOException;
import java.lang.reflect.Constructor;
import java.lang.reflect.Field;
import java.lang.reflect.Method;
import java.lang.reflect.Modifier;
import java.nio.file.Files;
import java.nio.file.Path;
import java.util.List;
import java.util.Set;
import java.util.TreeSet;

/** The face is the document's, no more and no less, and the file keeps to what can be seen of LANGUAGE.md. */
public final class FaceTest {
    private static final String FACE = "feed(IIIII)I text(I)I fault()I where()I about(I)I loop(II)I wave(II)I level(II)I "
        + "seed(I)Z begin(II)Z run(I)I now(I)I sum(I)I size(I)I out(I)I "
        + "often(III)I astray(II)I rows(III)I like(III)I tone(III)I nth(II)I mean(III)I octet(I)I "
        + "summed(II)I summedAt(III)I worst(II)I "
        + "cycle(III)I fed(IIII)I sweep(IIIII)I steady(I)I apart(IIII)I "
        + "keep(I)Z back(I)Z letter(III)I bytes()I trouble()I";
    private static final Check CHECK = new Check();

    public static void main(String[] args) throws IOException {
        face();
        fields();
        inside();
        source(Files.readAllLines(Path.of("src/main/java/LevelBits.java")));
        CHECK.end("face");
    }

    private static void yes(String what, boolean so) {
        CHECK.due(what, so, true);
    }

    private static void face() {
        yes("the class is public and final", (LevelBits.class.getModifiers() & (Modifier.PUBLIC | Modifier.FINAL))
            == (Modifier.PUBLIC | Modifier.FINAL));
        Set<String> told = new TreeSet<>();
        Set<String> names = new TreeSet<>();
        for (Method m : LevelBits.class.getDeclaredMethods()) {
            if (!Modifier.isPrivate(m.getModifiers())) {
                yes(m.getName() + " is public and no static", Modifier.isPublic(m.getModifiers()) && !Modifier.isStatic(m.getModifiers()));
                told.add(m.getName() + "(" + "I".repeat(m.getParameterCount()) + ")" + (m.getReturnType() == int.class ? "I" : "Z"));
                names.add(m.getName());
                for (Class<?> p : m.getParameterTypes()) {
                    yes(m.getName() + " takes ints", p == int.class);
                }
            }
        }
        Set<String> due = new TreeSet<>(List.of(FACE.split(" ")));
        yes("the methods are " + due + " and not " + told, told.equals(due));
        for (Method m : LevelBits.class.getDeclaredMethods()) {
            yes(m.getName() + " is private and named as none of the face",
                !Modifier.isPrivate(m.getModifiers()) || !names.contains(m.getName()));
        }
        for (Class<?> c : LevelBits.class.getDeclaredClasses()) {
            for (Method m : c.getDeclaredMethods()) {
                yes(c + " " + m.getName() + " is named as none of the face", !names.contains(m.getName()));
                yes(c + " " + m.getName() + " takes up to seven", m.getParameterCount() <= 7);
            }
        }
        Constructor<?>[] constructors = LevelBits.class.getDeclaredConstructors();
        yes("one public constructor", constructors.length == 1 && Modifier.isPublic(constructors[0].getModifiers())
            && constructors[0].getParameterCount() == 0);
    }

    private static void fields() {
        int many = 0;
        for (Field f : LevelBits.class.getDeclaredFields()) {
            boolean constant = f.getName().equals("NONE") || f.getName().equals("NOTHING");
            yes(f + " is of the face or private", constant == Modifier.isPublic(f.getModifiers())
                && constant != Modifier.isPrivate(f.getModifiers()));
            yes(f + " is final if static", !Modifier.isStatic(f.getModifiers()) || Modifier.isFinal(f.getModifiers()));
            many += Modifier.isStatic(f.getModifiers()) ? 0 : 1;
        }
        yes("some twenty fields at most", many <= 20);
    }

    private static void inside() {
        Class<?>[] all = LevelBits.class.getDeclaredClasses();
        yes("twelve classes at most", all.length < 12);
        for (Class<?> c : all) {
            yes(c + " is private and static", Modifier.isPrivate(c.getModifiers()) && Modifier.isStatic(c.getModifiers()));
            for (Field f : c.getDeclaredFields()) {
                yes(f + " is final if static", !Modifier.isStatic(f.getModifiers()) || Modifier.isFinal(f.getModifiers()));
            }
            for (Constructor<?> made : c.getDeclaredConstructors()) {
                yes(made + " gets nothing of the object that is being made",
                    made.isSynthetic() || made.getParameterCount() == 0);
            }
        }
    }

    private static void source(List<String> lines) {
        Set<String> imports = new TreeSet<>();
        int opened = 0;
        for (int i = 0; i < lines.size(); i++) {
            String line = lines.get(i);
            if (line.startsWith("import ")) {
                imports.add(line);
            }
            for (String no : List.of("package ", "->", "::", "Exact(", "catch", "finally", "synchronized", "assert ",
                "Object", "System.out", "System.currentTime", "System.nano", "hashCode", "toString", "var ")) {
                yes("line " + (i + 1) + " is without " + no, !line.contains(no));
            }
            if (line.matches("\\s+(public|private) .*\\(.*\\) .*\\{")) {
                opened = i;
            }
            if (line.matches(" {4,8}}")) {
                yes("line " + (i + 1) + " ends a short method", i - opened <= 60 || line.length() == 5);
            }
        }
        yes("imports " + imports, imports.equals(new TreeSet<>(List.of(
            "import java.util.Arrays;", "import java.util.NoSuchElementException;"))));
    }
}
