import java.io.IOException;
import java.lang.reflect.Constructor;
import java.lang.reflect.Field;
import java.lang.reflect.Method;
import java.lang.reflect.Modifier;
import java.nio.file.Files;
import java.nio.file.Path;
import java.util.ArrayList;
import java.util.Arrays;
import java.util.List;
import java.util.TreeSet;
import java.util.regex.Matcher;
import java.util.regex.Pattern;

/** The public face as the document gives it, and the rules of LANGUAGE.md that can be seen from outside. */
public final class FaceTest {
    private static final String IA = " throws java.lang.IllegalArgumentException";
    private static final String IS = IA + ",java.lang.IllegalStateException";
    private static final String[] FACE = {
        "public void OwnMemory.take(int,int,int,int)" + IS,
        "public void OwnMemory.copy(int,int)" + IA,
        "public void OwnMemory.drop(int)" + IA,
        "public int OwnMemory.kind(int)" + IA,
        "public boolean OwnMemory.same(int,int)" + IA,
        "public void OwnMemory.tie(int,int,int)" + IA,
        "public void OwnMemory.lead(int,int,int)" + IA,
        "public void OwnMemory.number(int,int,long)" + IA,
        "public void OwnMemory.refer(int,int,int)" + IA,
        "public long OwnMemory.bits(int,int)" + IA,
        "public boolean OwnMemory.follow(int,int,int)" + IA,
        "public void OwnMemory.set(int,int,int)" + IA,
        "public int OwnMemory.get(int,int)" + IA,
        "public void OwnMemory.text(int,long,int)" + IS,
        "public void OwnMemory.join(int,int,int)" + IS,
        "public void OwnMemory.part(int,int,int,int)" + IS,
        "public int OwnMemory.length(int)" + IA,
        "public int OwnMemory.unit(int,int)" + IS,
        "public int OwnMemory.compare(int,int)" + IS,
        "public void OwnMemory.name(int,int)" + IS,
        "public int OwnMemory.collect()",
        "public void OwnMemory.stress(int)" + IA,
    };
    /** What no line of the class may hold (comments and written texts aside), by the rules of LANGUAGE.md. */
    private static final String[] RULED_OUT = {"\\bfinally\\b", "\\bsynchronized\\b", "\\bassert\\b", "::", "Exact\\(",
        "\\bprotected\\b", "\\bnative\\b", "\\bSystem\\.(?!arraycopy)", "\\bimport (?!java\\.util\\.)", "\\bpackage\\b",
        "\\bstatic \\{", "\\bhashCode\\b", "\\bMath\\.random\\b", "\\bThread\\b", "\\bgetMessage\\b",
        "catch \\((?!Illegal(Argument|State)Exception )", "(?m)^(?!\\s*(case\\b|default\\b)).*->"};
    /** Rule 6, and a text that is written out. */
    private static final String THROWN = "throw new (Illegal(State|Argument)|IndexOutOfBounds|Arithmetic"
        + "|UnsupportedOperation|NoSuchElement|Runtime)Exception\\((\"[^\"]*\")?\\);";
    private static final String BOUND = "\\w+ [<>] \\w+( && .*)?";
    /** A step by which a loop's counter goes on for certain. */
    private static final String SURE_STEP = "\\w+(\\+\\+|--| \\+= [1-9]\\d*| \\+= Math\\.max\\(HEAD, .*\\))";
    private static int wrong = 0;

    private static void need(boolean right, String what) {
        if (!right) {
            wrong++;
            System.out.println(what);
        }
    }

    private static void face() {
        need(Modifier.isPublic(OwnMemory.class.getModifiers()), "the class is not public");
        need(Modifier.isFinal(OwnMemory.class.getModifiers()), "the class is not final");
        TreeSet<String> want = new TreeSet<>(Arrays.asList(FACE));
        TreeSet<String> names = new TreeSet<>();
        for (Method m : OwnMemory.class.getDeclaredMethods()) {
            if (Modifier.isPrivate(m.getModifiers())) {
                continue;
            }
            names.add(m.getName());
            need(want.remove(m.toString()), "not of the face: " + m);
        }
        need(want.isEmpty(), "missing of the face: " + want);
        for (Method m : OwnMemory.class.getDeclaredMethods()) {
            boolean isPrivate = Modifier.isPrivate(m.getModifiers());
            need(!isPrivate || !names.contains(m.getName()), "a private method with a public name: " + m);
            need(m.getParameterCount() <= 7, "too many parameters: " + m);
        }
        Constructor<?>[] made = OwnMemory.class.getDeclaredConstructors();
        need(made.length == 1 && made[0].toString().equals("public OwnMemory(int)"), "not the one constructor");
        int fields = 0;
        for (Field f : OwnMemory.class.getDeclaredFields()) {
            need(Modifier.isPrivate(f.getModifiers()), "a field that is not private: " + f);
            boolean isStatic = Modifier.isStatic(f.getModifiers());
            need(!isStatic || Modifier.isFinal(f.getModifiers()), "static state: " + f);
            fields += isStatic ? 0 : 1;
        }
        need(fields <= 20, "too many fields: " + fields);
    }

    private static void source() throws IOException {
        String text = Files.readString(Path.of("src/main/java/OwnMemory.java"));
        String code = text.replaceAll("(?s)/\\*.*?\\*/", "").replaceAll("//[^\n]*", "");
        String withoutTexts = code.replaceAll("\"[^\"\n]*\"", "\"\"");
        for (String rule : RULED_OUT) {
            Matcher found = Pattern.compile(rule).matcher(withoutTexts);
            need(!found.find(), "ruled out: " + rule);
        }
        Matcher thrown = Pattern.compile("throw [^;]*;").matcher(code);
        while (thrown.find()) {
            need(thrown.group().matches(THROWN), "thrown otherwise: " + thrown.group());
        }
        List<String> lines = new ArrayList<>(Arrays.asList(text.split("\n")));
        int begun = -1;
        for (int i = 0; i < lines.size(); i++) {
            if (lines.get(i).matches("    (public|private) .*\\{")) {
                begun = i;
            } else if (lines.get(i).equals("    }")) {
                need(i - begun < 60, "a method of over sixty lines ends at line " + (i + 1));
            }
        }
    }

    /** Rule 9: the class has only loops with a counter that goes on in the loop's own first line. */
    private static void loops() throws IOException {
        int loops = 0;
        for (String line : Files.readAllLines(Path.of("src/main/java/OwnMemory.java"))) {
            String code = line.replaceAll("^\\s*/?\\*.*|//.*", "").trim();
            need(!code.matches(".*\\b(while|do)\\b.*"), "a loop whose end is not in its first line: " + code);
            Matcher head = Pattern.compile("for \\((.*)\\) \\{").matcher(code);
            if (head.matches() && !head.group(1).contains(" : ")) {
                loops++;
                String[] parts = head.group(1).split("; ");
                need(parts.length == 3 && parts[1].matches(BOUND), "a loop without a bound: " + code);
                need(parts.length == 3 && parts[2].matches(SURE_STEP), "a loop that may not go on: " + code);
            }
        }
        need(loops > 0, "no loop found");
    }

    public static void main(String[] args) throws IOException {
        face();
        source();
        loops();
        System.out.println(wrong == 0 ? "the face is as due" : wrong + " things are not as due");
        if (wrong != 0) {
            System.exit(1);
        }
    }
}
