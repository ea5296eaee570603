import java.io.IOException;
import java.lang.reflect.Constructor;
import java.lang.reflect.Field;
import java.lang.reflect.Method;
import java.lang.reflect.Modifier;
import java.nio.file.Files;
import java.nio.file.Path;
import java.util.Arrays;
import java.util.Set;
import java.util.TreeSet;

/** The public face and those rules of LANGUAGE.md that can be seen from outside the code. */
public final class LanguageTest {
    private static final Set<String> FACE = new TreeSet<>(Arrays.asList(
            "public void begin(int,boolean) throws IllegalStateException",
            "public int write(long,int) throws IllegalArgumentException,IllegalStateException",
            "public int read() throws IllegalStateException",
            "public void close() throws IllegalStateException",
            "public void abort() throws IllegalStateException",
            "public int run(int) throws IllegalArgumentException,IllegalStateException",
            "public boolean next()",
            "public int segment(int) throws IllegalArgumentException,IllegalStateException",
            "public int byteAt(int) throws IllegalStateException,IndexOutOfBoundsException",
            "public int feed(long,int) throws IllegalArgumentException,IllegalStateException",
            "public int arrive(int,int,int,int,int) throws IllegalArgumentException",
            "public int state()",
            "public int figure(int) throws IllegalArgumentException"));
    private static final String[] CONSTANTS = {"OPEN", "LAST", "RESET", "THANKS", "NONE", "OVER"};
    private static final int[] VALUES = {1, 2, 4, 8, -1, -2};
    private static final String[] LEFT_OUT = {"catch", "finally", "synchronized", "assert ", "->", "::", "package ",
        "java.util.Random", "System.currentTimeMillis", "System.nanoTime", "Exact(", "static {"};

    public static void main(String[] args) throws IOException, IllegalAccessException {
        faceIsTheDocuments();
        constantsAreTheDocuments();
        nothingElseIsSeen();
        classesKeepTheirSize();
        textLeavesOutWhatIsRuledOut();
        Script.finish();
    }

    private static void faceIsTheDocuments() {
        Set<String> found = new TreeSet<>();
        Set<String> hidden = new TreeSet<>();
        for (Method m : StreamEnd.class.getDeclaredMethods()) {
            if (Modifier.isPrivate(m.getModifiers())) {
                hidden.add(m.getName());
            } else {
                found.add(m.toGenericString().replace("java.lang.", "").replace("StreamEnd.", ""));
            }
        }
        expect("the methods are the document's: " + found, found.equals(FACE));
        for (String line : FACE) {
            String name = line.replaceAll("\\(.*", "").replaceAll(".* ", "");
            expect("no private method is named " + name, !hidden.contains(name));
        }
        Constructor<?>[] made = StreamEnd.class.getDeclaredConstructors();
        expect("one public constructor", made.length == 1
                && made[0].toString().equals("public StreamEnd(int,int)"));
        expect("public and final", Modifier.isPublic(StreamEnd.class.getModifiers())
                && Modifier.isFinal(StreamEnd.class.getModifiers()));
    }

    private static void constantsAreTheDocuments() throws IllegalAccessException {
        for (int i = 0; i < CONSTANTS.length; i++) {
            try {
                expect(CONSTANTS[i], StreamEnd.class.getField(CONSTANTS[i]).getInt(null) == VALUES[i]);
            } catch (NoSuchFieldException e) {
                expect(CONSTANTS[i] + " is there", false);
            }
        }
    }

    private static void nothingElseIsSeen() {
        for (Field f : StreamEnd.class.getDeclaredFields()) {
            expect("field " + f.getName() + " is private", Modifier.isPrivate(f.getModifiers())
                    || Arrays.asList(CONSTANTS).contains(f.getName()));
        }
        for (Class<?> c : StreamEnd.class.getDeclaredClasses()) {
            expect("class " + c.getName() + " is private and static",
                    Modifier.isPrivate(c.getModifiers()) && Modifier.isStatic(c.getModifiers()));
        }
    }

    private static void classesKeepTheirSize() {
        expect("at most twelve classes", StreamEnd.class.getDeclaredClasses().length < 12);
        fieldsAreFew(StreamEnd.class);
        for (Class<?> c : StreamEnd.class.getDeclaredClasses()) {
            fieldsAreFew(c);
        }
    }

    private static void fieldsAreFew(Class<?> c) {
        int fields = 0;
        for (Field f : c.getDeclaredFields()) {
            int m = f.getModifiers();
            expect("static fields are final: " + f.getName(), !Modifier.isStatic(m) || Modifier.isFinal(m));
            fields += Modifier.isStatic(m) ? 0 : 1;
        }
        expect("at most twenty fields in " + c.getName(), fields <= 20);
        for (Method m : c.getDeclaredMethods()) {
            expect("at most seven parameters: " + m.getName(), m.getParameterCount() <= 7);
        }
    }

    private static void textLeavesOutWhatIsRuledOut() throws IOException {
        String text = Files.readString(Path.of("src/main/java/StreamEnd.java"));
        for (String word : LEFT_OUT) {
            expect("the text has no '" + word + "'", !text.contains(word));
        }
        for (String line : text.split("\n")) {
            expect("nothing but Arrays is imported: " + line,
                    !line.startsWith("import ") || line.equals("import java.util.Arrays;"));
        }
    }

    private static void expect(String what, boolean holds) {
        if (!holds) {
            Script.note("LANGUAGE: not so: " + what);
        }
    }
}
