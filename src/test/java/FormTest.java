import java.io.IOException;
import java.lang.reflect.Field;
import java.lang.reflect.Method;
import java.lang.reflect.Modifier;
import java.nio.file.Files;
import java.nio.file.Path;
import java.util.Arrays;
import java.util.Set;
import java.util.TreeSet;
import java.util.regex.Matcher;
import java.util.regex.Pattern;

/** The public face, and what of ../shared/LANGUAGE.md can be seen from the class and its source. */
public final class FormTest {
    private static final String[] FACE = {
        "int row(int,int,int)", "int set(int,int,long)", "int copy(int,int,int,int,int)", "long element(int,int)",
        "int show(int,int)", "int holds(int)", "int says(int,int)", "int biscuit(int,int,int)",
        "int biscuitOf(int,int)", "int wet(int,int,int)", "int ask(int,int)", "int worthOf(int,int)",
        "int table(int)", "int fault()", "int soak(int,int)", "int cellOf(int,int,int)", "int breaks(int)",
        "int left(int,int,int,int)", "int wetness(int,int,int,int,int)", "int when(int,int,int,int)",
        "int longest(int,int,int)", "int far(int,int,int)", "int worth(int,int,int,int)", "int best(int,int,int)",
        "int twice(int,int,int,int,int)", "int goes(int,int,int)", "int plate(int,int,int,int)",
        "int rule(int,int,int,int)", "long back(int,int,int)", "int heats(int,int,int,int)", "int fetch(int,int)",
        "int dip(int,int,int)", "int carry(int,int)", "int turn(int)", "int eats(int)", "int teas(int)",
        "int seed(int)", "int act(int,int,int)", "int trace(int)", "int image()", "int restore()", "int status(int)"};
    private static int wrong = 0;

    private static void due(boolean holds, String what) {
        if (!holds) {
            wrong++;
            System.out.println("not as due: " + what);
        }
    }

    public static void main(String[] args) throws IOException {
        face();
        members();
        source(Files.readString(Path.of("src/main/java/DunkedBiscuits.java")));
        System.out.println(wrong == 0 ? "form: as due" : "form: " + wrong + " not as due");
        if (wrong != 0) {
            System.exit(1);
        }
    }

    private static String form(Method m) {
        StringBuilder form = new StringBuilder(m.getReturnType().getName()).append(' ').append(m.getName()).append('(');
        for (int i = 0; i < m.getParameterCount(); i++) {
            form.append(i == 0 ? "" : ",").append(m.getParameterTypes()[i].getName());
        }
        return form.append(')').toString();
    }

    private static void face() {
        Set<String> publics = new TreeSet<>();
        for (Method m : DunkedBiscuits.class.getDeclaredMethods()) {
            if (Modifier.isPublic(m.getModifiers())) {
                publics.add(form(m));
                due(!Modifier.isStatic(m.getModifiers()), m.getName() + " is no static one");
            } else {
                due(Modifier.isPrivate(m.getModifiers()), m.getName() + " is private");
            }
        }
        Set<String> wanted = new TreeSet<>(Arrays.asList(FACE));
        due(publics.equals(wanted), "the methods " + publics);
        due(Modifier.isFinal(DunkedBiscuits.class.getModifiers()), "the class is final");
        due(DunkedBiscuits.class.getDeclaredConstructors().length == 1, "one constructor");
        due(DunkedBiscuits.class.getConstructors().length == 1, "it is public");
        for (Field f : DunkedBiscuits.class.getDeclaredFields()) {
            due(f.getName().equals("NONE") == Modifier.isPublic(f.getModifiers()), "visibility of " + f.getName());
            due(f.getName().equals("NONE") || Modifier.isPrivate(f.getModifiers()), f.getName() + " is private");
            due(!Modifier.isStatic(f.getModifiers()) || Modifier.isFinal(f.getModifiers()), f.getName() + " is final");
        }
    }

    private static void members() {
        Set<String> names = new TreeSet<>();
        for (String form : FACE) {
            names.add(form.substring(form.indexOf(' ') + 1, form.indexOf('(')));
        }
        due(DunkedBiscuits.class.getDeclaredClasses().length <= 11, "twelve classes at most");
        for (Class<?> inside : DunkedBiscuits.class.getDeclaredClasses()) {
            due(Modifier.isStatic(inside.getModifiers()), inside + " is static");
            due(!Modifier.isPublic(inside.getModifiers()), inside + " isn't public");
            int fields = 0;
            for (Field f : inside.getDeclaredFields()) {
                fields += Modifier.isStatic(f.getModifiers()) ? 0 : 1;
            }
            due(fields <= 20, inside + " has " + fields + " fields");
            for (Method m : inside.getDeclaredMethods()) {
                due(!names.contains(m.getName()), inside + ": " + m.getName() + " is a name of the face");
            }
        }
        for (Method m : DunkedBiscuits.class.getDeclaredMethods()) {
            due(Modifier.isPublic(m.getModifiers()) || !names.contains(m.getName()), m.getName() + " is a name of the face");
            due(m.getParameterCount() <= 7, m.getName() + " takes seven at most");
        }
    }

    private static void source(String text) {
        String bare = text.replaceAll("(?s)/\\*.*?\\*/", "").replaceAll("//[^\n]*", "")
            .replaceAll("\"[^\"\n]*\"", "\"\"").replaceAll("'[^'\n]*'", "''");
        String[] never = {"\\bthrow\\b", "\\bthrows\\b", "\\btry\\b", "\\bcatch\\b", "\\bsynchronized\\b",
            "\\bassert\\b", "\\bimport\\b", "\\bpackage\\b", "->", "::", "\\bvar\\b", "\\w+Exact\\b", "\\bSystem\\.(?!arraycopy)",
            "\\bequals\\b", "\\bhashCode\\b", "\\btoString\\b", "\\bvolatile\\b", "\\btransient\\b", "\\bnative\\b",
            "\\bThread\\b", "\\bRandom\\b", "\\bObject\\b", "\\bprotected\\b", "@"};
        for (String sign : never) {
            due(!Pattern.compile(sign).matcher(bare).find(), "no " + sign);
        }
        for (int i = 0; i < text.length(); i++) {
            due(text.charAt(i) < 127, "sign " + (int) text.charAt(i));
        }
        Matcher method = Pattern.compile("(?m)^( {4}| {8})[a-z][^;={}]*\\([^;={}]*\\) \\{\n").matcher(bare);
        int methods = 0;
        while (method.find()) {
            int end = bare.indexOf("\n" + method.group(1) + "}", method.end() - 1);
            int lines = (int) bare.substring(method.start(), end).chars().filter(c -> c == '\n').count() + 1;
            due(lines <= 60, lines + " lines: " + method.group().trim());
            methods++;
        }
        due(methods > 80, "methods seen: " + methods);
        Matcher made = Pattern.compile("\\bnew\\b").matcher(bare);
        while (made.find()) {
            String before = bare.substring(0, made.start());
            String line = before.substring(before.lastIndexOf('\n') + 1);
            boolean field = line.contains(" final ");
            boolean filled = line.matches(" +(shelves|biscuits)\\[\\w\\] = ");
            due(field || filled, "made elsewhere than in a constructor: " + line.trim());
        }
    }
}
