import java.io.IOException;
import java.lang.reflect.Constructor;
import java.lang.reflect.Field;
import java.lang.reflect.Member;
import java.lang.reflect.Method;
import java.lang.reflect.Modifier;
import java.nio.file.Files;
import java.nio.file.Path;
import java.util.ArrayList;
import java.util.Arrays;
import java.util.List;
import java.util.TreeSet;
import java.util.regex.Matcher;
import java.util.regex.Pattern;

/** The public face as the document has it, and those rules of LANGUAGE.md that can be looked up. */
public final class FaceTests extends Checks {
    private static final Class<?> FACE = AuthorityRows.class;
    private static final Path SOURCE = Path.of("src/main/java/AuthorityRows.java");
    private static final int MOST_LINES = 60;

    private static final String[] MEMBERS = {
        "public static final int AuthorityRows.NONE",
        "public AuthorityRows()",
        "public void AuthorityRows.sign(int)",
        "public int AuthorityRows.heading(int)",
        "public int AuthorityRows.link(int,int,int,long)",
        "public int AuthorityRows.rename(int)",
        "public int AuthorityRows.find()",
        "public int AuthorityRows.see(int,int)",
        "public int AuthorityRows.broader(int,int)",
        "public int AuthorityRows.delete(int)",
        "public int AuthorityRows.split(int,long)",
        "public int AuthorityRows.shown(int,long)",
        "public int AuthorityRows.record(int,long)",
        "public int AuthorityRows.linked(int)",
        "public int AuthorityRows.form(int,long)",
        "public int AuthorityRows.ring(int)",
        "public int AuthorityRows.letter(int,int)",
    };

    public static void main(String[] args) throws IOException {
        String source = Files.readString(SOURCE);
        faceIsTheDocuments();
        classesInsideAreStatic();
        privateMethodsHaveOtherNames();
        staticFieldsAreFinal();
        wordsThatAreRuledOut(source);
        methodsStayShort(source);
        finish();
    }

    private static void faceIsTheDocuments() {
        says("The public face");
        TreeSet<String> seen = new TreeSet<>();
        for (Method m : FACE.getDeclaredMethods()) {
            addIfSeenOutside(seen, m, m.toString());
        }
        for (Constructor<?> c : FACE.getDeclaredConstructors()) {
            addIfSeenOutside(seen, c, c.toString());
        }
        for (Field f : FACE.getDeclaredFields()) {
            addIfSeenOutside(seen, f, f.toString());
        }
        due("the face", seen.toString(), new TreeSet<>(List.of(MEMBERS)).toString());
        due("the class", Modifier.toString(FACE.getModifiers()), "public final");
        due("NONE", AuthorityRows.NONE, -1);
    }

    private static void addIfSeenOutside(TreeSet<String> seen, Member member, String name) {
        if (!Modifier.isPrivate(member.getModifiers())) {
            seen.add(name);
        }
    }

    private static void classesInsideAreStatic() {
        says("LANGUAGE 1, 11: classes inside are private or package-visible and static, some twelve");
        for (Class<?> inside : FACE.getDeclaredClasses()) {
            int modifiers = inside.getModifiers();
            if (!Modifier.isStatic(modifiers) || Modifier.isPublic(modifiers) || Modifier.isProtected(modifiers)) {
                fail(inside + " is " + Modifier.toString(modifiers));
            }
        }
        due("at most 12", FACE.getDeclaredClasses().length <= 12 ? 1 : 0, 1);
    }

    private static void privateMethodsHaveOtherNames() {
        says("LANGUAGE 1: No private method bears the name of a public one");
        TreeSet<String> open = new TreeSet<>();
        for (Method m : FACE.getMethods()) {
            open.add(m.getName());
        }
        for (Class<?> c : allClasses()) {
            for (Method m : c.getDeclaredMethods()) {
                if (!Modifier.isPublic(m.getModifiers()) && open.contains(m.getName())) {
                    fail(m.toString());
                }
            }
        }
    }

    private static void staticFieldsAreFinal() {
        says("LANGUAGE 5: Static fields are final");
        for (Class<?> c : allClasses()) {
            for (Field f : c.getDeclaredFields()) {
                if (Modifier.isStatic(f.getModifiers()) && !Modifier.isFinal(f.getModifiers())) {
                    fail(f.toString());
                }
            }
        }
    }

    private static List<Class<?>> allClasses() {
        List<Class<?>> all = new ArrayList<>(Arrays.asList(FACE.getDeclaredClasses()));
        all.add(FACE);
        return all;
    }

    private static void wordsThatAreRuledOut(String source) {
        says("LANGUAGE 2, 4, 6, 13, and that the document wants no exception");
        Matcher ruledOut = Pattern.compile("\\b(import|package|throws?|try|catch|finally|synchronized|assert|native"
                + "|System|Thread|Random)\\b|->|::|Exact\\(").matcher(withoutComments(source));
        while (ruledOut.find()) {
            fail("the source has " + ruledOut.group());
        }
    }

    private static String withoutComments(String source) {
        return source.replaceAll("(?s)/\\*.*?\\*/", "").replaceAll("//.*", "");
    }

    private static void methodsStayShort(String source) {
        says("LANGUAGE 11: Methods stay short (some sixty lines)");
        // A method ends at the brace that stands as far in as its first line.
        Matcher method = Pattern.compile("(?ms)^( {4,8})\\S[^\\n;=]*\\) \\{\\n.*?^\\1\\}").matcher(source);
        int found = 0;
        while (method.find()) {
            found++;
            int lines = method.group().split("\n").length;
            if (lines > MOST_LINES) {
                fail(lines + " lines: " + method.group().split("\n")[0]);
            }
        }
        due("methods are found", found >= MEMBERS.length - 1 ? 1 : 0, 1);
    }
}
