import java.lang.reflect.Constructor;
import java.lang.reflect.Field;
import java.lang.reflect.Method;
import java.lang.reflect.Modifier;
import java.nio.file.Files;
import java.nio.file.Path;
import java.util.ArrayList;
import java.util.List;
import java.util.Set;
import java.util.TreeSet;
import java.util.regex.Matcher;
import java.util.regex.Pattern;

/** The rules of LANGUAGE.md that can be seen in the source or in the compiled class. */
public final class LanguageRules {
    private static final String FACE = "week(int,int)int cut(int,int)int shorter(int,int)int entry(int,int,int,int)int "
            + "counts(int,int)int of(int,int)int feed(int,int,int,int,int)int end(int)int row()int blurred()int "
            + "book()int fault()int fits()int between(int,int,int)int sure(int,int)int feet(int,int,int)int "
            + "part(int,int,int)long lay(int,int,int,int,int)int area(int,int,int,int)int would(int,int,int,int)int "
            + "numbers(int,int,int,int)int ask(int)int dates(int,int,int,int)int joined(int,int)int groups(int)int "
            + "core()int wrong(int)int whose(int)int could(int,int)int when(int,int)int tell(int,int)int "
            + "says(int,int,int)int judge(int)int year(int,int,int)int trade(int)int told(int)int image(int)int "
            + "back(int)int count(int)int status()int";

    private static int wrong = 0;

    private static void must(boolean holds, String rule) {
        if (!holds) {
            wrong++;
            System.out.println(rule);
        }
    }

    public static void main(String[] args) throws Exception {
        faceIsTheDocuments();
        classesAreSmall();
        sourceKeepsToTheRules(Files.readString(Path.of("src/main/java/WeekFoot.java")));
        System.out.println(wrong == 0 ? "the rules are kept" : wrong + " rules are broken");
        if (wrong != 0) {
            System.exit(1);
        }
    }

    private static String signature(Method m) {
        StringBuilder s = new StringBuilder(m.getName()).append('(');
        for (Class<?> p : m.getParameterTypes()) {
            s.append(s.charAt(s.length() - 1) == '(' ? "" : ",").append(p.getSimpleName());
        }
        return s.append(')').append(m.getReturnType().getSimpleName()).toString();
    }

    private static void faceIsTheDocuments() {
        Set<String> face = new TreeSet<>(List.of(FACE.split(" ")));
        Set<String> here = new TreeSet<>();
        Set<String> names = new TreeSet<>();
        for (Method m : WeekFoot.class.getDeclaredMethods()) {
            if (Modifier.isPublic(m.getModifiers())) {
                here.add(signature(m));
                names.add(m.getName());
            }
        }
        must(face.equals(here), "rule 1: the public methods are " + here);
        for (Method m : WeekFoot.class.getDeclaredMethods()) {
            boolean isPublic = Modifier.isPublic(m.getModifiers());
            must(isPublic || Modifier.isPrivate(m.getModifiers()), "rule 1: " + m + " can be seen");
            must(isPublic || !names.contains(m.getName()), "rule 1: " + m + " bears a public name");
        }
        for (Class<?> c : WeekFoot.class.getDeclaredClasses()) {
            must(Modifier.isStatic(c.getModifiers()), "rule 2: " + c + " is not static");
            for (Method m : c.getDeclaredMethods()) {
                must(!names.contains(m.getName()), "rule 1: " + m + " bears a public name");
            }
        }
        for (Field f : WeekFoot.class.getDeclaredFields()) {
            must(Modifier.isPrivate(f.getModifiers()) || f.getName().equals("NONE"), "rule 1: " + f + " can be seen");
        }
        Constructor<?>[] makers = WeekFoot.class.getDeclaredConstructors();
        must(makers.length == 1 && Modifier.isPublic(makers[0].getModifiers()), "rule 1: the constructor");
        must(Modifier.isFinal(WeekFoot.class.getModifiers()), "rule 1: the class is not final");
    }

    private static void classesAreSmall() {
        List<Class<?>> all = new ArrayList<>(List.of(WeekFoot.class.getDeclaredClasses()));
        all.add(WeekFoot.class);
        must(all.size() <= 12, "rule 11: " + all.size() + " classes");
        for (Class<?> c : all) {
            int fields = 0;
            for (Field f : c.getDeclaredFields()) {
                boolean isStatic = Modifier.isStatic(f.getModifiers());
                must(!isStatic || Modifier.isFinal(f.getModifiers()), "rule 5: " + f);
                fields += isStatic ? 0 : 1;
            }
            must(fields <= 20, "rule 11: " + c + " has " + fields + " fields");
            for (Method m : c.getDeclaredMethods()) {
                must(m.getParameterCount() <= 7, "rule 11: " + m + " has too many parameters");
            }
        }
    }

    private static void sourceKeepsToTheRules(String source) {
        for (int i = 0; i < source.length(); i++) {
            must(source.charAt(i) < 128, "a sign beyond 127 at " + i);
        }
        String code = source.replaceAll("(?s)/\\*.*?\\*/", "").replaceAll("//[^\n]*", "");
        String[] banned = {"\\b(throw|throws|try|catch|synchronized|assert|protected|package|instanceof|record|enum)\\b",
            "->", "::", "@", "\\bnew \\w+\\([^)]*\\) \\{", "Exact\\(", "\\bstatic \\{", "\\b(Random|Thread|Object)\\b",
            "System\\.(?!arraycopy)", "\\b(double|float)\\b", "\\[\\]\\[\\]"};
        for (String b : banned) {
            Matcher m = Pattern.compile(b).matcher(code);
            must(!m.find(), "the source has " + b);
        }
        Matcher imports = Pattern.compile("import ([\\w.]+);").matcher(code);
        while (imports.find()) {
            must(imports.group(1).equals("java.util.Arrays"), "rule 4: import " + imports.group(1));
        }
        Matcher calls = Pattern.compile("\\b(Math|Integer|Long|Arrays)\\.(\\w+)").matcher(code);
        Set<String> known = Set.of("min", "max", "compare", "bitCount", "fill");
        while (calls.find()) {
            must(known.contains(calls.group(2)), "rule 4: " + calls.group());
        }
        methodsAreShort(code.split("\n"));
    }

    private static void methodsAreShort(String[] lines) {
        Pattern head = Pattern.compile("^( {4}| {8})(?! )[\\w\\[\\] ]+\\([^;]*\\{$");
        for (int i = 0; i < lines.length; i++) {
            Matcher m = head.matcher(lines[i]);
            if (m.find()) {
                int end = i;
                while (end < lines.length && !lines[end].equals(m.group(1) + "}")) {
                    end++;
                }
                must(end - i <= 60, "rule 11: a long method: " + lines[i]);
            }
        }
    }
}
