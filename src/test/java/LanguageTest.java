import java.lang.reflect.Constructor;
import java.lang.reflect.Field;
import java.lang.reflect.Method;
import java.lang.reflect.Modifier;
import java.util.Set;
import java.util.TreeSet;

/** The public face and those rules of LANGUAGE.md that can be seen from outside the code. */
public final class LanguageTest {
    private static final Set<String> FACE = new TreeSet<>();
    private static final Set<String> CONSTANTS = new TreeSet<>();
    private static final Set<String> CONSTRUCTORS = new TreeSet<>();
    private static final String[] LEFT_OUT = {"catch", "finally", "synchronized", "assert ", "->", "::", "package ",
        "java.util.Random", "System.currentTimeMillis", "System.nanoTime", "Exact(", "static {"};

    private static final String MADE = "(byte\\[|int\\[|(Outgoing|Incoming|Watch|Due|Segment)\\(\\)|Outgoing\\(this\\.largest\\)"
            + "|(IllegalArgumentException|IllegalStateException|IndexOutOfBoundsException)\\(\")";

    public static void main(String[] args) throws IllegalAccessException {
        readTheDocumentsFace();
        faceIsTheDocuments();
        constantsAreTheDocuments();
        nothingElseIsSeen();
        classesKeepTheirSize();
        textLeavesOutWhatIsRuledOut();
        Script.finish();
    }

    /** Sorts the document's lines as reflection tells members: without the parameters' names. */
    private static void readTheDocumentsFace() {
        for (String line : Document.faceLines()) {
            if (line.contains("=")) {
                CONSTANTS.add(line);
            } else {
                Set<String> where = line.startsWith("public StreamEnd(") ? CONSTRUCTORS : FACE;
                where.add(line.replaceAll("(int|long|boolean) \\w+([,)])", "$1$2").replace(", ", ",").replace(";", ""));
            }
        }
        expect("the document's face was found", FACE.size() == 13 && CONSTANTS.size() == 6 && CONSTRUCTORS.size() == 1);
    }

    private static void faceIsTheDocuments() {
        Set<String> found = new TreeSet<>();
        Set<String> hidden = new TreeSet<>();
        for (Method m : StreamEnd.class.getDeclaredMethods()) {
            if (Modifier.isPrivate(m.getModifiers())) {
                hidden.add(m.getName());
            } else {
                found.add(m.toGenericString().replace("java.lang.", "").replace("StreamEnd.", ""));
            }
        }
        for (Class<?> c : StreamEnd.class.getDeclaredClasses()) {
            for (Method m : c.getDeclaredMethods()) {
                hidden.add(m.getName());
            }
        }
        expect("the methods are the document's: " + found, found.equals(FACE));
        for (String line : FACE) {
            String name = line.replaceAll("\\(.*", "").replaceAll(".* ", "");
            expect("no private method is named " + name, !hidden.contains(name));
        }
        Set<String> makers = new TreeSet<>();
        for (Constructor<?> c : StreamEnd.class.getDeclaredConstructors()) {
            makers.add(c.toString());
        }
        expect("the constructors are the document's: " + makers, makers.equals(CONSTRUCTORS));
        expect("public and final", Modifier.isPublic(StreamEnd.class.getModifiers())
                && Modifier.isFinal(StreamEnd.class.getModifiers()));
    }

    private static void constantsAreTheDocuments() throws IllegalAccessException {
        Set<String> found = new TreeSet<>();
        for (Field f : StreamEnd.class.getDeclaredFields()) {
            if (!Modifier.isPrivate(f.getModifiers())) {
                String told = f.toString().replace("StreamEnd.", "");
                boolean isConstant = told.startsWith("public static final int ");
                found.add(isConstant ? told + " = " + f.getInt(null) + ";" : told);
            }
        }
        expect("the constants are the document's, and no other field is seen: " + found, found.equals(CONSTANTS));
    }

    private static void nothingElseIsSeen() {
        for (Class<?> c : StreamEnd.class.getDeclaredClasses()) {
            expect("class " + c.getName() + " is private and static",
                    Modifier.isPrivate(c.getModifiers()) && Modifier.isStatic(c.getModifiers()));
        }
    }

    private static void classesKeepTheirSize() {
        expect("at most twelve classes", StreamEnd.class.getDeclaredClasses().length < 12);
        fieldsAreFew(StreamEnd.class);
        for (Class<?> c : StreamEnd.class.getDeclaredClasses()) {
            fieldsAreFew(c);
        }
    }

    private static void fieldsAreFew(Class<?> c) {
        int fields = 0;
        for (Field f : c.getDeclaredFields()) {
            int m = f.getModifiers();
            expect("static fields are final: " + f.getName(), !Modifier.isStatic(m) || Modifier.isFinal(m));
            fields += Modifier.isStatic(m) ? 0 : 1;
        }
        expect("at most twenty fields in " + c.getName(), fields <= 20);
        for (Method m : c.getDeclaredMethods()) {
            expect("at most seven parameters: " + m.getName(), m.getParameterCount() <= 7);
        }
    }

    private static void textLeavesOutWhatIsRuledOut() {
        String text = Document.textOf("src/main/java/StreamEnd.java");
        for (String word : LEFT_OUT) {
            expect("the text has no '" + word + "'", !text.contains(word));
        }
        String code = text.replaceAll("(?s)/\\*.*?\\*/", "").replaceAll("//.*", "");
        for (String made : code.split("\\bnew ")) {
            expect("only rows, own classes and the document's exceptions are made: " + made.split("\n")[0],
                    made.startsWith("import ") || made.matches("(?s)" + MADE + ".*"));
        }
        for (String line : text.split("\n")) {
            expect("nothing but Arrays is imported: " + line,
                    !line.startsWith("import ") || line.equals("import java.util.Arrays;"));
        }
    }

    private static void expect(String what, boolean holds) {
        if (!holds) {
            Script.note("LANGUAGE: not so: " + what);
        }
    }
}
