import java.io.IOException;
import java.lang.reflect.Field;
import java.lang.reflect.Member;
import java.lang.reflect.Method;
import java.lang.reflect.Modifier;
import java.nio.file.Files;
import java.nio.file.Path;
import java.util.ArrayList;
import java.util.Arrays;
import java.util.Collections;
import java.util.List;
import java.util.TreeSet;
import java.util.regex.Matcher;
import java.util.regex.Pattern;

/** The document's public face, and those rules of LANGUAGE.md that can be seen from outside. */
public final class LanguageTest {

    private static final String FACE = "int change(int,int,int);int of(int,int);int rain(int);int spouts(int);"
        + "int pour(int,int);int go(int);int now(int);int ahead(int,int,int);int alley(int);int dry(int);"
        + "int when(int,int);int settles();int below(int);int rainFor(int,int);int holdsFor(int,int);"
        + "int needFor(int,int);int kindsFor(int,int);int kindFor(int,int);int turn(int,int);int best(int);"
        + "int love(int,int);int burst(int,int,int);int turned(int,int);int kinds(int,int);int showers(int);"
        + "long odds(int,int,int);int seed(int);int feed(int,int);int wipe();int text();int hold(int,int);"
        + "int as(int,int);int sheet(int,int,int);int write(int,int,int);int copy(int,int,int,int,int);"
        + "int load(int);int judge(int);int image();int undo();int tear();int count(int);int status(int)";

    private static final String NOT_ALLOWED = "\\b(throw|throws|try|catch|finally|synchronized|assert|var|double|float"
        + "|Object|Random|Thread|File|System\\.(?!arraycopy\\b)\\w+)\\b|->|::|\\w*Exact\\b";

    public static void main(String[] args) throws IOException {
        face();
        membersBeside();
        sizes();
        String text = Files.readString(Path.of("src/main/java/GutterRights.java"));
        source(withoutComments(text));
        lengths(text);
        Due.end();
    }

    private static void face() {
        List<String> got = new ArrayList<>();
        for (Method method : GutterRights.class.getDeclaredMethods()) {
            if (Modifier.isPublic(method.getModifiers())) {
                got.add(method.getReturnType() + " " + method.getName() + parametersOf(method));
            }
        }
        Collections.sort(got);
        List<String> want = new ArrayList<>(Arrays.asList(FACE.split(";")));
        Collections.sort(want);
        Due.due("the face", got.toString(), want.toString());
        Due.due("final", GutterRights.class.getModifiers(), Modifier.PUBLIC | Modifier.FINAL);
        Due.due("constructors", GutterRights.class.getDeclaredConstructors().length, 1);
        Due.due("public constructors", GutterRights.class.getConstructors().length, 1);
    }

    private static String parametersOf(Method method) {
        StringBuilder all = new StringBuilder();
        for (Class<?> type : method.getParameterTypes()) {
            all.append(all.length() == 0 ? "" : ",").append(type.getName());
        }
        return "(" + all + ")";
    }

    private static void membersBeside() {
        List<Member> members = new ArrayList<>(Arrays.asList(GutterRights.class.getDeclaredFields()));
        TreeSet<String> faceNames = new TreeSet<>();
        for (Method method : GutterRights.class.getDeclaredMethods()) {
            if (Modifier.isPublic(method.getModifiers())) {
                faceNames.add(method.getName());
            } else {
                members.add(method);
            }
        }
        for (Member member : members) {
            Due.due(member + " is private", Modifier.isPrivate(member.getModifiers()) ? 1 : 0, 1);
        }
        for (Class<?> inside : GutterRights.class.getDeclaredClasses()) {
            Due.due(inside + " is static", Modifier.isStatic(inside.getModifiers()) ? 1 : 0, 1);
            for (Method method : inside.getDeclaredMethods()) {
                members.add(method);
            }
        }
        for (Member member : members) {
            if (member instanceof Method) {
                Due.due(member + " has a name of the face", faceNames.contains(member.getName()) ? 1 : 0, 0);
                Due.due(member + " has at most seven parameters", Math.max(7, ((Method) member).getParameterCount()), 7);
            }
        }
    }

    /** Rules 1, 5, 11: how many classes and fields there are, and what is static. */
    private static void sizes() {
        List<Class<?>> classes = new ArrayList<>(Arrays.asList(GutterRights.class.getDeclaredClasses()));
        classes.add(GutterRights.class);
        Due.due("classes", Math.max(12, classes.size()), 12);
        for (Class<?> each : classes) {
            int fields = 0;
            for (Field field : each.getDeclaredFields()) {
                boolean isStatic = Modifier.isStatic(field.getModifiers());
                fields += isStatic ? 0 : 1;
                Due.due(field + " is final, if static", isStatic && !Modifier.isFinal(field.getModifiers()) ? 1 : 0, 0);
            }
            Due.due("fields of " + each, Math.max(20, fields), 20);
            Due.due(each + " is public", Modifier.isPublic(each.getModifiers()) == (each == GutterRights.class) ? 1 : 0, 1);
        }
    }

    /** Rules 4 and 11: methods of some sixty lines at most; signs 1 to 127. */
    private static void lengths(String text) {
        Matcher body = Pattern.compile("(?m)^( {4}| {8})\\S[^;=\n]*\\) \\{\n(?:.*\n)*?\\1\\}$").matcher(text);
        int methods = 0;
        while (body.find()) {
            methods++;
            long lines = body.group().lines().count();
            Due.due("lines of " + body.group().lines().findFirst().get().strip(), Math.max(60, lines), 60);
        }
        Due.due("methods are seen", methods > 80 ? 1 : 0, 1);
        Due.due("signs", text.chars().allMatch(c -> c >= 1 && c <= 127) ? 1 : 0, 1);
        Due.due("a package line", text.contains("package ") ? 1 : 0, 0);
    }

    private static String withoutComments(String source) {
        return source.replaceAll("(?s)/\\*.*?\\*/", "").replaceAll("//[^\n]*", "");
    }

    private static void source(String source) {
        Matcher wrong = Pattern.compile(NOT_ALLOWED).matcher(source);
        while (wrong.find()) {
            Due.due("not allowed: " + wrong.group(), 1, 0);
        }
        Matcher imports = Pattern.compile("import ([^;]*);").matcher(source);
        while (imports.find()) {
            Due.due("import", imports.group(1), "java.util.Arrays");
        }
        // What is made is made once, with the object: no call makes anything.
        Matcher made = Pattern.compile("(.*)\\bnew \\w").matcher(source);
        while (made.find()) {
            String ahead = made.group(1);
            boolean isOnce = ahead.contains("final ") || ahead.contains("sheets[s] = ");
            Due.due("made in a call: " + made.group(), isOnce ? 0 : 1, 0);
        }
    }
}
