import java.io.IOException;
import java.lang.reflect.Constructor;
import java.lang.reflect.Field;
import java.lang.reflect.Method;
import java.lang.reflect.Modifier;
import java.nio.file.Files;
import java.nio.file.Path;
import java.util.Arrays;
import java.util.HashSet;
import java.util.List;
import java.util.Set;
import java.util.TreeSet;
import java.util.regex.Matcher;
import java.util.regex.Pattern;

/** The face of the class, and those rules of LANGUAGE.md that can be seen in its text or its members. */
public final class LanguageTest {
    private static final String FACE = "row(iii)i set(iil)i copy(iiiii)i element(ii)l holds(i)i show(ii)i says(ii)i "
        + "line(iiiiii)i goods(iii)i work(iiii)i change(ii)i coin(ii)i years(i)i washed(ib)i feed(ii)i wipe()i land()i "
        + "lineOf(ii)i goodsOf(ii)i workOf(ii)i cheapest(ii)i way(ii)i free()i turn(i)i total(i)i best()i worth(i)i "
        + "first()i greedy()i gap()i edge(i)i never()i one(ii)i which(i)i earns(i)i gains(ii)i losers(i)i port(ib)i "
        + "hangs()i plan(ii)i judge(ii)i year(i)i run(i)i image()i back()i status(i)i";
    private static final Check C = new Check("LanguageTest");

    public static void main(String[] args) throws IOException {
        face();
        members();
        text();
        C.end();
    }

    private static char letter(Class<?> type) {
        return type.getName().charAt(0);
    }

    private static String told(Method m) {
        StringBuilder b = new StringBuilder(m.getName()).append('(');
        for (Class<?> p : m.getParameterTypes()) {
            b.append(letter(p));
        }
        return b.append(')').append(letter(m.getReturnType())).toString();
    }

    private static void face() {
        Set<String> due = new TreeSet<>(Arrays.asList(FACE.split(" ")));
        Set<String> is = new TreeSet<>();
        Set<String> names = new HashSet<>();
        for (Method m : TwoWidths.class.getDeclaredMethods()) {
            if (Modifier.isPublic(m.getModifiers())) {
                is.add(told(m));
                names.add(m.getName());
            } else {
                C.due(m.getName() + " is private", Modifier.isPrivate(m.getModifiers()));
            }
        }
        C.due("the public methods are those of the document: " + is, is.equals(due));
        for (Class<?> c : TwoWidths.class.getDeclaredClasses()) {
            for (Method m : c.getDeclaredMethods()) {
                C.due(m.getName() + " has a name of its own", !names.contains(m.getName()));
            }
        }
        for (Method m : TwoWidths.class.getDeclaredMethods()) {
            C.due(m.getName() + " has a name of its own", Modifier.isPublic(m.getModifiers()) || !names.contains(m.getName()));
        }
        Constructor<?>[] makers = TwoWidths.class.getDeclaredConstructors();
        C.due("one constructor", makers.length == 1 && Modifier.isPublic(makers[0].getModifiers()));
        C.due("public and final", Modifier.isPublic(TwoWidths.class.getModifiers()) && Modifier.isFinal(TwoWidths.class.getModifiers()));
    }

    private static void members() {
        List<Class<?>> classes = new java.util.ArrayList<>(List.of(TwoWidths.class.getDeclaredClasses()));
        C.due("at most twelve classes", classes.size() <= 11);
        for (Class<?> c : classes) {
            C.due(c + " is static", Modifier.isStatic(c.getModifiers()));
            C.due(c + " is not public", !Modifier.isPublic(c.getModifiers()) && !Modifier.isProtected(c.getModifiers()));
        }
        classes.add(TwoWidths.class);
        for (Class<?> c : classes) {
            int fields = 0;
            for (Field f : c.getDeclaredFields()) {
                boolean isStatic = Modifier.isStatic(f.getModifiers());
                fields += isStatic ? 0 : 1;
                C.due(f + " is final, if static", !isStatic || Modifier.isFinal(f.getModifiers()));
                boolean mayBeSeen = c != TwoWidths.class || f.getName().equals("NONE");
                C.due(f + " is private", mayBeSeen || Modifier.isPrivate(f.getModifiers()));
            }
            C.due(c + " has at most twenty fields", fields <= 20);
            for (Method m : c.getDeclaredMethods()) {
                C.due(m + " takes at most seven parameters", m.getParameterCount() <= 7);
            }
        }
    }

    private static void text() throws IOException {
        String path = System.getProperty("twowidths.source", "src/main/java/TwoWidths.java");
        String source = Files.readString(Path.of(path));
        String bare = source.replaceAll("(?s)/\\*.*?\\*/", " ").replaceAll("//[^\n]*", " ").replaceAll("\"[^\"\n]*\"", "\"\"");
        String[] words = {"throw", "throws", "try", "catch", "synchronized", "assert", "package", "double", "float",
            "System\\.(?!arraycopy)", "Math\\.\\w+Exact", "Random", "->", "::", "hashCode", "toString", "protected",
            "\"\"\\s*\\+", "\\+\\s*\"\"", "Object", "Thread"};
        for (String word : words) {
            String edge = Character.isLetter(word.charAt(0)) ? "\\b" : "";
            Matcher m = Pattern.compile(edge + word + (word.matches("\\w+") ? "\\b" : "")).matcher(bare);
            C.due("no " + word, !m.find());
        }
        C.due("signs 1 to 127 alone", source.chars().allMatch(c -> c >= 1 && c <= 127));
        Matcher imports = Pattern.compile("import ([\\w.]+);").matcher(bare);
        while (imports.find()) {
            C.due("import " + imports.group(1), imports.group(1).equals("java.util.Arrays"));
        }
        methodsStayShort(bare);
    }

    private static void methodsStayShort(String bare) {
        String[] lines = bare.split("\n");
        int start = -1;
        String shut = "";
        for (int i = 0; i < lines.length; i++) {
            Matcher head = Pattern.compile("^( +)[\\w\\[\\] ]+\\(.*").matcher(lines[i]);
            int indent = head.matches() ? head.group(1).length() : -1;
            if (start < 0 && (indent == 4 || indent == 8) && !lines[i].contains(";") && !lines[i].matches(" +(if|for|while|switch)\\b.*")) {
                start = i;
                shut = " ".repeat(indent) + "}";
            }
            if (start >= 0 && lines[i].equals(shut)) {
                C.due("a method of " + (i - start + 1) + " lines at " + (start + 1), i - start + 1 <= 60);
                start = -1;
            }
        }
    }
}
