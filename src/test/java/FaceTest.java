import java.lang.reflect.Executable;
import java.lang.reflect.Field;
import java.lang.reflect.Method;
import java.lang.reflect.Modifier;
import java.nio.file.Files;
import java.nio.file.Path;
import java.util.TreeSet;

/** The class shows the document's face and nothing more, and keeps off what LANGUAGE.md leaves out. */
public final class FaceTest {
    private static final String[] FACE = {
        "int NONE", "int UNKNOWN", "int OUTSIDE", "int STATE", "int FULL", "int NO", "long LOST",
        "LieBridges()", "int plank(int,int,int,int)", "int trust(int,int,boolean)", "int know(int,int,boolean)",
        "int fade(int)", "int say(int)", "int wipe()", "int fault()", "int vain(int)", "int done()",
        "int bears(int,int)", "int behind(int,int)", "int falls(int,int,int,int,int)", "int tellings(int,int,int,int)",
        "int stands(int,int,int)", "int word(int)", "int rumour(int,int)", "int odds(int,int,int,int)",
        "int tenths(int,int)", "int safe(int,int,int)", "long chance(int,int,int)", "int seen(int,int)",
        "int forget()", "int filled(int)", "int year(int,int,int)", "int image(int)", "int restore(int)",
        "int told(int)"};
    // the calls in the document's order, each group behind the heading that the interface says ahead of it
    private static final String[] ORDER = {
        "---- 1 deltas, texts", "plank", "trust", "know", "fade", "say", "wipe", "fault",
        "---- 2 days", "vain", "done", "bears", "behind", "falls",
        "---- 3 ways, words", "tellings", "stands", "word", "rumour", "odds",
        "---- 4 chances, what is not told, years", "tenths", "safe", "chance", "seen", "forget", "filled", "year",
        "image", "restore", "told"};
    private static final String[] LEFT_OUT = {"import ", "package ", "Exact", "catch", "finally", "synchronized",
        "assert", "->", "::", "System.", "Random", "Thread", "instanceof", "throw ", "goto", "protected"};

    public static void main(String[] args) throws Exception {
        Checks checks = new Checks();
        TreeSet<String> due = new TreeSet<>();
        for (String member : FACE) {
            due.add(member);
        }
        TreeSet<String> shown = shown();
        if (!shown.equals(due)) {
            System.out.println("shown: " + shown + ", due: " + due);
        }
        checks.due("the face", shown.equals(due) ? 1 : 0, 1);
        int kind = LieBridges.class.getModifiers();
        checks.due("public and final", Modifier.isPublic(kind) && Modifier.isFinal(kind) ? 1 : 0, 1);
        privateNames(checks, due);
        String source = Files.readString(Path.of("src/main/java/LieBridges.java"));
        for (String word : LEFT_OUT) {
            checks.due("where '" + word + "' stands", source.indexOf(word), -1);
        }
        headings(checks, source);
        measures(checks, source);
        checks.end("FaceTest");
    }

    private static void headings(Checks checks, String source) {
        int place = 0;
        for (String next : ORDER) {
            String line = next.startsWith("-") ? "\n    // " + next + "\n" : " " + next + "(";
            String start = next.startsWith("-") ? line : "\n    public " + (next.equals("chance") ? "long" : "int") + line;
            int found = source.indexOf(start, place);
            checks.due("'" + next + "' stands behind the one ahead", found >= 0 ? 1 : 0, 1);
            place = found >= 0 ? found + start.length() - 1 : place;
        }
    }

    /** Rules 3, 5 and 11 of LANGUAGE.md, as far as they can be counted. */
    private static void measures(Checks checks, String source) {
        Class<?>[] inside = LieBridges.class.getDeclaredClasses();
        checks.due("at most twelve classes", inside.length < 12 ? 1 : 0, 1);
        fewEnough(checks, LieBridges.class);
        for (Class<?> one : inside) {
            fewEnough(checks, one);
        }
        checks.due("signs 1 to 127 alone", source.chars().filter(sign -> sign < 1 || sign > 127).count(), 0);
        String[] lines = source.split("\\R");
        int start = 0;
        for (int line = 0; line < lines.length; line++) {
            if (lines[line].matches("( {4}| {8})(?!if|for|while|switch|return)\\w.*\\) \\{")) {
                start = line;
            }
            if (lines[line].matches("( {4}| {8})\\}")) {
                checks.due("a method of sixty lines at most ends at line " + (line + 1),
                    line - start <= 60 ? 1 : 0, 1);
            }
        }
    }

    private static void fewEnough(Checks checks, Class<?> one) {
        int own = 0;
        for (Field field : one.getDeclaredFields()) {
            int kind = field.getModifiers();
            own += Modifier.isStatic(kind) ? 0 : 1;
            checks.due("static and not final: " + field, Modifier.isStatic(kind) && !Modifier.isFinal(kind) ? 1 : 0, 0);
        }
        checks.due("at most twenty fields in " + one, own <= 20 ? 1 : 0, 1);
        for (Method method : one.getDeclaredMethods()) {
            checks.due("at most seven parameters: " + method, method.getParameterCount() <= 7 ? 1 : 0, 1);
        }
    }

    private static TreeSet<String> shown() {
        TreeSet<String> shown = new TreeSet<>();
        for (Field field : LieBridges.class.getDeclaredFields()) {
            if (!Modifier.isPrivate(field.getModifiers())) {
                shown.add(field.getType() + " " + field.getName());
            }
        }
        for (Method method : LieBridges.class.getDeclaredMethods()) {
            if (!Modifier.isPrivate(method.getModifiers())) {
                shown.add(method.getReturnType() + " " + method.getName() + taken(method));
            }
        }
        for (Executable made : LieBridges.class.getDeclaredConstructors()) {
            shown.add("LieBridges" + taken(made));
        }
        return shown;
    }

    private static String taken(Executable call) {
        StringBuilder types = new StringBuilder("(");
        for (Class<?> type : call.getParameterTypes()) {
            types.append(types.length() > 1 ? "," : "").append(type);
        }
        return types.append(")").toString();
    }

    private static void privateNames(Checks checks, TreeSet<String> face) {
        TreeSet<String> names = new TreeSet<>();
        for (String member : face) {
            names.add(member.replaceAll("^\\w+ |\\(.*", ""));
        }
        for (Class<?> inside : LieBridges.class.getDeclaredClasses()) {
            checks.due(inside + " is static", Modifier.isStatic(inside.getModifiers()) ? 1 : 0, 1);
            for (Method method : inside.getDeclaredMethods()) {
                checks.due("a name of the face: " + method, names.contains(method.getName()) ? 1 : 0, 0);
            }
        }
        for (Method method : LieBridges.class.getDeclaredMethods()) {
            boolean hidden = Modifier.isPrivate(method.getModifiers());
            checks.due("a name of the face: " + method, hidden && names.contains(method.getName()) ? 1 : 0, 0);
        }
    }
}
