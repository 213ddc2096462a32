import java.io.IOException;
import java.lang.reflect.Constructor;
import java.lang.reflect.Field;
import java.lang.reflect.Method;
import java.lang.reflect.Modifier;
import java.nio.file.Files;
import java.nio.file.Path;
import java.util.ArrayList;
import java.util.Collections;
import java.util.List;
import java.util.regex.Matcher;
import java.util.regex.Pattern;

/** The public face, and those rules of LANGUAGE.md that reflection or the text of the class can show. */
public final class FaceTest {
    private static final String[] FACE = {
        "public static final int NONE", "public static final int GREEN", "public static final int AMBER",
        "public static final int RED", "public Steamfield()",
        "public int Steamfield.block(int,int,int) throws IndexOutOfBounds,IllegalArgument,IllegalState",
        "public int Steamfield.crack(int,int,int) throws IndexOutOfBounds,IllegalArgument",
        "public int Steamfield.rain(int) throws IllegalArgument",
        "public int Steamfield.well(int,boolean) throws IndexOutOfBounds,IllegalState",
        "public int Steamfield.open(int,int) throws IndexOutOfBounds,IllegalArgument",
        "public int Steamfield.clean(int) throws IndexOutOfBounds,IllegalState",
        "public int Steamfield.use(int,int) throws IllegalArgument,IllegalState",
        "public int Steamfield.spring(int,int,int) throws IndexOutOfBounds,IllegalArgument,IllegalState",
        "public int Steamfield.promise(int,int) throws IndexOutOfBounds,IllegalArgument",
        "public long Steamfield.tracer(int,int) throws IndexOutOfBounds,IllegalArgument,IllegalState",
        "public int Steamfield.pass(int) throws IllegalArgument,IllegalState",
        "public long Steamfield.ofBlock(int,int) throws IndexOutOfBounds,IllegalArgument",
        "public long Steamfield.would(int,int,int) throws IndexOutOfBounds,IllegalArgument",
        "public long Steamfield.ofWell(int,int) throws IndexOutOfBounds,IllegalArgument",
        "public long Steamfield.ofSpring(int,int) throws IndexOutOfBounds,IllegalArgument",
        "public int Steamfield.quake(int,int) throws IndexOutOfBounds,IllegalArgument",
        "public int Steamfield.count(int) throws IllegalArgument",
        "public long Steamfield.sum(int) throws IllegalArgument", "public int Steamfield.share()"
    };
    // What LANGUAGE.md's rules 2, 3, 4, 6 and 13 leave no room for.
    private static final String[] RULED_OUT = {
        "\\bimport\\b", "\\bpackage\\b", "->", "::", "\\bfinally\\b", "\\bassert\\b", "\\bsynchronized\\b", "Exact\\b",
        "\\bFloat\\b", "\\bDouble\\b", "\\bSystem\\.(?!arraycopy)", "\\bcatch\\b", "\\bvar\\b", "\\bThread\\b", "\\bgetMessage\\b",
        "Math\\.(?!abs|max|min|floorDiv|floorMod)", "\\bhashCode\\b", "\\bequals\\b", "\\btoString\\b", "\" \\+", "\\+ \""
    };

    private static String face(String text) {
        return text.replace("java.lang.", "").replace("Exception", "").replace("Steamfield.NONE", "NONE")
            .replace("Steamfield.GREEN", "GREEN").replace("Steamfield.AMBER", "AMBER").replace("Steamfield.RED", "RED");
    }

    private static void publicFace() {
        List<String> found = new ArrayList<>();
        for (Field f : Steamfield.class.getDeclaredFields()) {
            if (!Modifier.isPrivate(f.getModifiers())) {
                found.add(face(f.toString()));
            }
        }
        for (Constructor<?> c : Steamfield.class.getDeclaredConstructors()) {
            found.add(face(c.toString()));
        }
        for (Method m : Steamfield.class.getDeclaredMethods()) {
            if (!Modifier.isPrivate(m.getModifiers())) {
                found.add(face(m.toString()));
            }
        }
        List<String> want = new ArrayList<>(List.of(FACE));
        Collections.sort(want);
        Collections.sort(found);
        Check.same("the face", want.toString(), found.toString());
        int modifiers = Steamfield.class.getModifiers();
        Check.holds("the class is public and final", Modifier.isPublic(modifiers) && Modifier.isFinal(modifiers));
    }

    private static void membersInside() {
        List<String> names = new ArrayList<>();
        for (Method m : Steamfield.class.getDeclaredMethods()) {
            if (Modifier.isPublic(m.getModifiers())) {
                names.add(m.getName());
            }
        }
        List<Class<?>> classes = new ArrayList<>(List.of(Steamfield.class.getDeclaredClasses()));
        for (Class<?> inside : classes) {
            Check.holds(inside + " is static and not public",
                Modifier.isStatic(inside.getModifiers()) && !Modifier.isPublic(inside.getModifiers()));
        }
        classes.add(Steamfield.class);
        Check.holds("at most 12 classes", classes.size() <= 12);
        for (Class<?> c : classes) {
            int fields = 0;
            for (Field f : c.getDeclaredFields()) {
                fields += Modifier.isStatic(f.getModifiers()) ? 0 : 1;
                Check.holds(f + ": static only if final", !Modifier.isStatic(f.getModifiers()) || Modifier.isFinal(f.getModifiers()));
            }
            Check.holds(c + " has at most 20 fields", fields <= 20);
            for (Method m : c.getDeclaredMethods()) {
                Check.holds(m + " takes at most 7", m.getParameterCount() <= 7);
                Check.holds(m + " bears the name of a public one", Modifier.isPublic(m.getModifiers()) || !names.contains(m.getName()));
            }
        }
    }

    private static void text(Path file) throws IOException {
        String text = Files.readString(file);
        Check.holds("a sign above 127", text.chars().allMatch(c -> c < 128));
        String code = text.replaceAll("(?s)/\\*.*?\\*/", "").replaceAll("//[^\n]*", "");
        for (String ruledOut : RULED_OUT) {
            Matcher m = Pattern.compile(ruledOut).matcher(code);
            Check.holds("ruled out: " + ruledOut, !m.find());
        }
        // Only what is made with the object is made at all: no call may fill the room.
        Matcher made = Pattern.compile("\\bnew (\\w+)(\\(|\\[)").matcher(code);
        while (made.find()) {
            int line = code.lastIndexOf('\n', made.start());
            String ahead = code.substring(line + 1, made.start());
            Check.holds("made in a call: " + ahead + made.group(),
                ahead.contains(" final ") || ahead.strip().equals("throw"));
        }
    }

    public static void main(String[] args) throws IOException {
        publicFace();
        membersInside();
        text(Path.of(args.length > 0 ? args[0] : "src/main/java/Steamfield.java"));
        Check.end("FaceTest");
    }
}
