import java.io.IOException;
import java.lang.reflect.Constructor;
import java.lang.reflect.Field;
import java.lang.reflect.Method;
import java.lang.reflect.Modifier;
import java.nio.file.Files;
import java.nio.file.Path;
import java.util.Arrays;
import java.util.Random;
import java.util.Set;
import java.util.TreeSet;
import java.util.regex.Matcher;
import java.util.regex.Pattern;

/** The face of DOC.md, and those rules of LANGUAGE.md that can be seen from outside or in the source (its path is the argument). */
public final class HailNamesLanguage {
    private static final String[] FACE = {
        "int person(int, int, int)", "int stone(int, int, int, int)", "int reader(int, int, int)", "int melt(int)",
        "int say(int)", "int wipe()", "int fault()", "int judge(int)", "int behind(int, int)", "int reads(int, int)",
        "int yard(int)", "int lost(int)", "int done()", "int plan(int, int)", "int cover(int, int)",
        "int seen(int, int, int)", "int forget()", "int nets(int)", "int ask(int)", "int roots(int, int)",
        "long thought(int, int, int, int)", "int storm(int, int, int)", "int image(int)", "int restore(int)",
        "int told(int)"};
    private static final String[] CONSTANTS = {
        "int UNKNOWN", "int OUTSIDE", "int STATE", "int FULL", "int NO", "int NONE", "long GONE"};
    private static int wrong = 0;

    private static void hold(boolean so, String rule) {
        if (!so) {
            wrong++;
            System.out.println("broken: " + rule);
        }
    }

    public static void main(String[] args) throws Exception {
        face();
        classesInside();
        if (args.length > 0) {
            source(args[0]);
        }
        oddArguments();
        System.out.println(wrong == 0 ? "all rules hold" : wrong + " rules are broken");
        if (wrong != 0) {
            System.exit(1);
        }
    }

    private static void face() {
        Set<String> methods = new TreeSet<>();
        Set<String> publicNames = new TreeSet<>();
        for (Method m : HailNames.class.getDeclaredMethods()) {
            if (!Modifier.isPrivate(m.getModifiers()) && !m.isSynthetic()) {
                hold(Modifier.isPublic(m.getModifiers()) && !Modifier.isStatic(m.getModifiers()), "public " + m);
                String types = Arrays.toString(m.getParameterTypes());
                methods.add(m.getReturnType() + " " + m.getName() + "(" + types.substring(1, types.length() - 1) + ")");
                publicNames.add(m.getName());
            }
        }
        hold(methods.equals(new TreeSet<>(Arrays.asList(FACE))), "the methods of the face, but " + methods);
        for (Method m : HailNames.class.getDeclaredMethods()) {
            hold(!Modifier.isPrivate(m.getModifiers()) || !publicNames.contains(m.getName()), "a private name " + m);
        }
        Set<String> fields = new TreeSet<>();
        for (Field f : HailNames.class.getDeclaredFields()) {
            int mods = f.getModifiers();
            hold(!Modifier.isStatic(mods) || Modifier.isFinal(mods), "static fields are final: " + f);
            if (!Modifier.isPrivate(mods)) {
                hold(Modifier.isPublic(mods) && Modifier.isStatic(mods), "a public constant " + f);
                fields.add(f.getType() + " " + f.getName());
            }
        }
        hold(fields.equals(new TreeSet<>(Arrays.asList(CONSTANTS))), "the constants of the face, but " + fields);
        Constructor<?>[] constructors = HailNames.class.getDeclaredConstructors();
        hold(constructors.length == 1 && constructors[0].getParameterCount() == 0
            && Modifier.isPublic(constructors[0].getModifiers()), "one public constructor");
        hold(Modifier.isFinal(HailNames.class.getModifiers()), "the class is final");
    }

    private static void classesInside() {
        Class<?>[] inside = HailNames.class.getDeclaredClasses();
        hold(inside.length < 12, "at most some twelve classes");
        for (Class<?> c : inside) {
            hold(Modifier.isStatic(c.getModifiers()), "static: " + c);
            hold(!Modifier.isPublic(c.getModifiers()) && !Modifier.isProtected(c.getModifiers()), "not public: " + c);
            int own = 0;
            for (Field f : c.getDeclaredFields()) {
                own += Modifier.isStatic(f.getModifiers()) ? 0 : 1;
            }
            hold(own <= 20, "some twenty fields: " + c);
            for (Method m : c.getDeclaredMethods()) {
                hold(m.getParameterCount() <= 7, "seven parameters: " + m);
            }
        }
    }

    private static void source(String path) throws IOException {
        String text = Files.readString(Path.of(path));
        String code = text.replaceAll("(?s)/\\*.*?\\*/", "").replaceAll("//[^\n]*", "");
        String[] words = {"package", "import", "throw", "throws", "try", "catch", "finally", "synchronized", "assert",
            "instanceof", "hashCode", "toString", "String", "volatile", "transient", "native", "Thread", "Random",
            "double", "float", "Object", "var", "yield"};
        for (String word : words) {
            hold(!Pattern.compile("\\b" + word + "\\b").matcher(code).find(), "without the word " + word);
        }
        hold(!code.contains("->") && !code.contains("::"), "no lambda, no method reference");
        hold(!code.contains("Exact("), "no function whose name ends in Exact");
        Matcher library = Pattern.compile("\\b(Math|Integer|Long|System|Arrays)\\.(\\w+)").matcher(code);
        Set<String> allowed = new TreeSet<>(Arrays.asList("Math.max", "Math.min", "Math.abs", "Integer.bitCount",
            "Integer.numberOfTrailingZeros", "System.arraycopy"));
        while (library.find()) {
            hold(allowed.contains(library.group()), "the library: " + library.group());
        }
        for (int i = 0; i < text.length(); i++) {
            hold(text.charAt(i) < 128, "plain signs in the source");
        }
        methodLengths(code);
    }

    private static void methodLengths(String code) {
        int depth = 0;
        int[] opened = new int[100];
        String[] lines = code.split("\n");
        for (int i = 0; i < lines.length; i++) {
            for (char c : lines[i].toCharArray()) {
                if (c == '{') {
                    opened[depth] = i;
                    depth++;
                } else if (c == '}') {
                    depth--;
                    String head = lines[opened[depth]];
                    if (head.contains("(") && depth > 0) {
                        hold(i - opened[depth] < 60, "methods stay short: " + head.trim());
                    }
                }
            }
        }
    }

    /** No call may throw, whatever it is given. */
    private static void oddArguments() throws Exception {
        int[] odd = {Integer.MIN_VALUE, Integer.MIN_VALUE + 1, -1000, -13, -7, -6, -5, -2, -1, 0, 1, 2, 3, 4, 7, 8, 9,
            10, 11, 12, 13, 15, 16, 59, 60, 61, 62, 63, 64, 65, 80, 81, 99, 100, 126, 127, 999, 1000, 9999, 10000,
            65536, Integer.MAX_VALUE - 1, Integer.MAX_VALUE};
        Method[] methods = HailNames.class.getDeclaredMethods();
        Arrays.sort(methods, (a, b) -> a.getName().compareTo(b.getName()));
        Random random = new Random(7);
        for (int run = 0; run < 300; run++) {
            HailNames x = new HailNames();
            for (int call = 0; call < 512; call++) {
                Method m = methods[random.nextInt(methods.length)];
                if (!Modifier.isPublic(m.getModifiers())) {
                    continue;
                }
                Object[] given = new Object[m.getParameterCount()];
                for (int i = 0; i < given.length; i++) {
                    given[i] = odd[random.nextInt(odd.length)];
                }
                m.invoke(x, given);
            }
        }
    }
}
