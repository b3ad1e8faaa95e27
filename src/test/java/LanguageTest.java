import java.lang.reflect.Constructor;
import java.lang.reflect.Field;
import java.lang.reflect.Method;
import java.lang.reflect.Modifier;
import java.nio.file.Files;
import java.nio.file.Path;
import java.util.ArrayList;
import java.util.Arrays;
import java.util.List;
import java.util.TreeSet;
import java.util.regex.Matcher;
import java.util.regex.Pattern;

/** What of ../shared/LANGUAGE.md can be seen by a look at the source and at the compiled classes. */
public final class LanguageTest {
    private static final String SOURCE = "src/main/java/EditionVault.java";
    private static final String[] FACE = {"int feed(int,int,int,int,int)", "int write(int,int)", "int remove(int)",
        "int move(int,int)", "int copy(int,int)", "int commit()", "int rebuild(int)", "int join(int,int)",
        "int drop(int)", "int pack()", "int spoil(int,int)", "int mend(int,int)", "int cure()", "int risk(int,int)",
        "int weakest(int)", "int drops(int,int)", "int thin(int)", "int thrift()", "int pieces(int,int)",
        "int fetch(int,int)", "int like(int,int,int)", "int count(int)", "int edition(int)", "int of(int,int)",
        "int seal(int,boolean)", "int name(int,int)", "int named(int)", "int nameByte(int,int)", "int came(int,int)",
        "int weigh(int,int)", "int file(int,int,int)", "int at(int,int,boolean,int)", "int content(int,int)",
        "int row(int)", "int owner(int)", "int change(int,int,int,int)", "int common(int,int)", "int touched(int,int)",
        "int told(int,int)", "int since(int,int)"};
    private static final String[] NOT_WORDS = {"throw", "throws", "try", "catch", "finally", "synchronized", "assert",
        "import", "package", "protected", "volatile", "transient", "native", "System", "Thread", "Random", "Object",
        "getClass", "hashCode", "toString", "MAX_VALUE", "MIN_VALUE"};
    private static int wrong;

    private LanguageTest() {
    }

    private static void check(boolean isRight, String what) {
        if (!isRight) {
            wrong++;
            System.out.println(what);
        }
    }

    public static void main(String[] args) throws Exception {
        checkFace();
        checkInside();
        List<String> lines = Files.readAllLines(Path.of(SOURCE));
        checkWords(lines);
        checkMethods(lines);
        System.out.println(wrong == 0 ? "the program keeps to the language" : wrong + " faults of language");
        if (wrong != 0) {
            System.exit(1);
        }
    }

    private static String told(Method m) {
        StringBuilder s = new StringBuilder(m.getReturnType() + " " + m.getName() + "(");
        for (Class<?> c : m.getParameterTypes()) {
            s.append(s.charAt(s.length() - 1) == '(' ? "" : ",").append(c);
        }
        return s.append(')').toString();
    }

    private static void checkFace() {
        Class<?> face = EditionVault.class;
        check(Modifier.isFinal(face.getModifiers()) && Modifier.isPublic(face.getModifiers()), "1: not public final");
        TreeSet<String> got = new TreeSet<>();
        for (Method m : face.getDeclaredMethods()) {
            if (!Modifier.isPrivate(m.getModifiers())) {
                check(Modifier.isPublic(m.getModifiers()), "1: neither public nor private: " + told(m));
                got.add(told(m));
            }
        }
        check(got.equals(new TreeSet<>(Arrays.asList(FACE))), "1: the face is " + got);
        for (Field f : face.getDeclaredFields()) {
            boolean isNone = f.getName().equals("NONE");
            check(isNone ? Modifier.isPublic(f.getModifiers()) : Modifier.isPrivate(f.getModifiers()), "1: " + f);
        }
        for (Constructor<?> c : face.getDeclaredConstructors()) {
            check(Modifier.isPublic(c.getModifiers()) && c.getParameterCount() == 0, "1: " + c);
        }
    }

    private static void checkInside() {
        List<Class<?>> all = new ArrayList<>(Arrays.asList(EditionVault.class.getDeclaredClasses()));
        all.add(EditionVault.class);
        check(all.size() <= 12, "11: classes: " + all.size());
        TreeSet<String> names = new TreeSet<>();
        for (String f : FACE) {
            names.add(f.substring(4, f.indexOf('(')));
        }
        for (Class<?> c : all) {
            check(c == EditionVault.class || Modifier.isStatic(c.getModifiers()), "2: not static: " + c);
            int fields = 0;
            for (Field f : c.getDeclaredFields()) {
                boolean isStatic = Modifier.isStatic(f.getModifiers());
                check(!isStatic || Modifier.isFinal(f.getModifiers()), "5: not final: " + f);
                fields += isStatic ? 0 : 1;
            }
            check(fields <= 20, "11: fields of " + c + ": " + fields);
            for (Method m : c.getDeclaredMethods()) {
                check(m.getParameterCount() <= 7, "11: parameters of " + m);
                check(Modifier.isPublic(m.getModifiers()) || !names.contains(m.getName()), "1: named as the face: " + m);
            }
        }
    }

    private static String withoutComments(List<String> lines) {
        return Pattern.compile("/\\*.*?\\*/", Pattern.DOTALL).matcher(String.join("\n", lines).replaceAll("//[^\n]*", ""))
            .replaceAll("");
    }

    private static void checkWords(List<String> lines) {
        String code = withoutComments(lines);
        for (String word : NOT_WORDS) {
            check(!Pattern.compile("\\b" + word + "\\b").matcher(code).find(), "4, 6, 13: the word " + word);
        }
        check(!code.contains("->") && !code.contains("::"), "2: a lambda or a method reference");
        check(!code.contains("while (true)") && !code.contains("for (;;)"), "9: a loop without an end");
        Matcher calls = Pattern.compile("\\b([A-Z][A-Za-z]*)\\.([a-z][A-Za-z]*)\\(").matcher(code);
        List<String> own = new ArrayList<>();
        for (Class<?> c : EditionVault.class.getDeclaredClasses()) {
            own.add(c.getSimpleName());
        }
        while (calls.find()) {
            String call = calls.group(1) + "." + calls.group(2);
            boolean isListed = call.matches("Math\\.(min|max|abs)|Integer\\.bitCount");
            check(isListed || own.contains(calls.group(1)), "4: the library's " + call);
        }
        checkMade(code);
    }

    /** Objects come of constructors and initialisers alone: no call makes any, so no run needs room. */
    private static void checkMade(String code) {
        String inside = "";
        int depth = 0;
        for (String line : code.split("\n")) {
            Matcher head = Pattern.compile("^    (    )?(public |private |static |final )*([A-Za-z\\[\\]]+ )?([A-Za-z]+)\\(.*\\{$")
                .matcher(line);
            if (head.find()) {
                inside = head.group(3) == null ? "" : head.group(4);
                depth = line.indexOf(line.trim());
            } else if (line.equals(" ".repeat(depth) + "}")) {
                inside = "";
            }
            check(inside.isEmpty() || !line.contains("new "), "12: made in " + inside + ": " + line.trim());
        }
    }

    private static void checkMethods(List<String> lines) {
        int start = -1;
        String end = "";
        for (int i = 0; i < lines.size(); i++) {
            String line = lines.get(i);
            check(line.chars().allMatch(c -> c >= 32 && c < 127), "3: a sign in line " + (i + 1));
            check(line.length() <= 120, "line " + (i + 1) + " is long");
            if (start < 0 && line.matches(" {4}( {4})?[a-zA-Z].*\\(.*\\) \\{")) {
                start = i;
                end = " ".repeat(line.indexOf(line.trim())) + "}";
            } else if (start >= 0 && line.equals(end)) {
                check(i - start < 60, "11: a method of " + (i - start + 1) + " lines from line " + (start + 1));
                start = -1;
            }
        }
        check(start < 0, "a method without an end");
    }
}
