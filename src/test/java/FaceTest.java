import java.lang.reflect.Constructor;
import java.lang.reflect.Field;
import java.lang.reflect.Method;
import java.lang.reflect.Modifier;
import java.nio.file.Files;
import java.nio.file.Path;
import java.util.ArrayList;
import java.util.Collections;
import java.util.HashSet;
import java.util.List;
import java.util.Set;
import java.util.regex.Matcher;
import java.util.regex.Pattern;

/** The class has the document's face and nothing beside it (rule 1 of LANGUAGE.md). */
public final class FaceTest {
    private static final String[] METHODS = {
        "int can(int,int)", "int miss(int,int,int)", "int wind(int,int)", "int raw(int,int,int)",
        "int fix(int,int,int)", "int undo()", "int say(int)", "int wipe()", "int fault()", "int note(int)",
        "int of(int,int,int)", "int set(int,int)", "int week(int,int,int)", "int breaks(int,int)",
        "int chance(int,int)", "int radar(int,int,int,int,int)", "int blind()", "int bound(int,int,int,int)",
        "int over(int,int,int,int,int,int)", "int flow(int,int,int,int,int,int,int)", "int fill(int,int,int)",
        "int place(int,int,int,int)", "int record(int,int,int)", "int seam(int,int)", "int claim(int,int)",
        "int fives(int,int)", "long odds(int,int)", "int forgets(int,int)", "int image(int)", "int restore(int)",
        "int told(int)"};
    private static final String[] CONSTANTS = {
        "int UNKNOWN", "int OUTSIDE", "int STATE", "int FULL", "int NO", "int NONE", "int GONE", "long LOST"};

    private final Due due = new Due();

    public static void main(String[] args) throws Exception {
        FaceTest test = new FaceTest();
        test.due.about("the face");
        test.methods();
        test.fields();
        test.constructors();
        test.classesInside();
        test.asTheDocumentHasIt();
        test.due.end();
    }

    private void methods() {
        List<String> found = new ArrayList<>();
        Set<String> names = new HashSet<>();
        for (Method m : RainCans.class.getDeclaredMethods()) {
            if (Modifier.isPublic(m.getModifiers())) {
                due.holds(m + " is static", !Modifier.isStatic(m.getModifiers()));
                found.add(m.getReturnType() + " " + m.getName() + "(" + types(m.getParameterTypes()) + ")");
                names.add(m.getName());
            }
        }
        same(found, METHODS);
        for (Method m : RainCans.class.getDeclaredMethods()) {
            privateOnes(m, names);
        }
        for (Class<?> inside : RainCans.class.getDeclaredClasses()) {
            for (Method m : inside.getDeclaredMethods()) {
                due.holds(m + " bears a public name", !names.contains(m.getName()));
            }
        }
    }

    private void privateOnes(Method m, Set<String> names) {
        if (!Modifier.isPublic(m.getModifiers())) {
            due.holds(m + " is not private", Modifier.isPrivate(m.getModifiers()));
            due.holds(m + " bears a public name", !names.contains(m.getName()));
        }
        due.holds(m + " has too many parameters", m.getParameterCount() <= 7);
    }

    private void fields() {
        List<String> found = new ArrayList<>();
        int own = 0;
        for (Field f : RainCans.class.getDeclaredFields()) {
            boolean constant = Modifier.isStatic(f.getModifiers());
            due.holds(f + " is static and not final", !constant || Modifier.isFinal(f.getModifiers()));
            own += constant ? 0 : 1;
            if (Modifier.isPublic(f.getModifiers())) {
                found.add(f.getType() + " " + f.getName());
            } else {
                due.holds(f + " is not private", Modifier.isPrivate(f.getModifiers()));
            }
        }
        same(found, CONSTANTS);
        due.holds("too many fields: " + own, own <= 20);
    }

    private void constructors() {
        Constructor<?>[] all = RainCans.class.getDeclaredConstructors();
        due.is("constructors", all.length, 1);
        due.holds("the constructor is not public", Modifier.isPublic(all[0].getModifiers()));
        due.is("its parameters", all[0].getParameterCount(), 0);
        due.holds("the class is not final", Modifier.isFinal(RainCans.class.getModifiers()));
    }

    private void classesInside() {
        Class<?>[] inside = RainCans.class.getDeclaredClasses();
        due.holds("too many classes: " + inside.length, inside.length <= 12);
        for (Class<?> c : inside) {
            due.holds(c + " is not static", Modifier.isStatic(c.getModifiers()));
            due.holds(c + " is open", !Modifier.isPublic(c.getModifiers()) && !Modifier.isProtected(c.getModifiers()));
            int own = 0;
            for (Field f : c.getDeclaredFields()) {
                own += Modifier.isStatic(f.getModifiers()) ? 0 : 1;
            }
            due.holds(c + " has too many fields: " + own, own <= 20);
        }
    }

    /** The face to the letter, parameters' names too, and what the interface says ahead of its calls. */
    private void asTheDocumentHasIt() throws Exception {
        String document = Files.readString(Path.of("../shared/DOC.md"));
        String program = Files.readString(Path.of("src/main/java/RainCans.java"));
        Matcher line = Pattern.compile("(?m)^ *(public [^;{]*?)[;{ ]*$").matcher(document);
        int lines = 0;
        while (line.find()) {
            lines++;
            due.holds("does not stand in the program: " + line.group(1), program.contains(line.group(1)));
        }
        due.is("lines of the face", lines, 1 + 3 + 1 + METHODS.length);
        Matcher part = Pattern.compile("Ahead of the calls (.*) the interface says: (---- .*)\\.").matcher(document);
        int parts = 0;
        while (part.find()) {
            parts++;
            List<String> ahead = new ArrayList<>(List.of(part.group(1).replace("`", "").split(", ")));
            due.holds(ahead + " have not this ahead: " + part.group(2), callsBehind(program, part.group(2)).equals(ahead));
        }
        due.is("parts of the interface", parts, 5);
    }

    /** The public calls from a comment on to the next such one. */
    private static List<String> callsBehind(String program, String comment) {
        List<String> calls = new ArrayList<>();
        int from = program.indexOf("    // " + comment + "\n");
        if (from >= 0) {
            int to = program.indexOf("    // ----", from + 1);
            String between = program.substring(from, to < 0 ? program.length() : to);
            Matcher call = Pattern.compile("public \\w+ (\\w+)\\(").matcher(between);
            while (call.find()) {
                calls.add(call.group(1));
            }
        }
        return calls;
    }

    private static String types(Class<?>[] all) {
        StringBuilder text = new StringBuilder();
        for (Class<?> c : all) {
            text.append(text.length() == 0 ? "" : ",").append(c);
        }
        return text.toString();
    }

    private void same(List<String> found, String[] want) {
        List<String> wanted = new ArrayList<>(List.of(want));
        Collections.sort(wanted);
        Collections.sort(found);
        due.holds("found " + found + ", due is " + wanted, found.equals(wanted));
    }
}
