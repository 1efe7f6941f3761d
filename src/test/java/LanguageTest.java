import java.io.IOException;
import java.lang.reflect.Constructor;
import java.lang.reflect.Field;
import java.lang.reflect.Method;
import java.lang.reflect.Modifier;
import java.nio.file.Files;
import java.nio.file.Path;
import java.util.Arrays;
import java.util.Set;
import java.util.TreeSet;
import java.util.regex.Matcher;
import java.util.regex.Pattern;

/** The public face of the document, and those rules of LANGUAGE.md that can be seen from outside. */
public final class LanguageTest {
    private static final String[] FACE = {
        "int set(int,int,long)", "long bits(int)", "int lane(int)", "int turn(int,int)", "int reckon(int,int,int,int)",
        "int compare(int,int)", "int drum(int,long)", "int wind(int,int)", "long told(int,int)", "int log(int,int)",
        "int write(int,int,int)", "int read(int,int,int)", "int rest(int,int,int)", "int copy(int,int,boolean)",
        "long whole(int,int)", "int spool(int,boolean)", "int rack(int,boolean,int)", "int put(int,int,int)",
        "int at(int,int)", "int weight(int,int,boolean)", "int brake(int,int,long)", "int slow(int,int)",
        "int failed()", "int count(int)"};

    private static int wrong = 0;

    private static void check(boolean good, String what) {
        if (!good) {
            wrong++;
            System.out.println(what);
        }
    }

    public static void main(String[] args) throws IOException {
        checkMethods();
        checkFieldsAndConstructors();
        checkClassesInside();
        checkSource(Files.readString(Path.of("src/main/java/RopeDrums.java")));
        System.out.println(wrong == 0 ? "the face and the language are as told" : wrong + " rules are broken");
        if (wrong != 0) System.exit(1);
    }

    private static void checkMethods() {
        Set<String> face = new TreeSet<>();
        Set<String> names = new TreeSet<>();
        for (Method m : RopeDrums.class.getDeclaredMethods()) {
            if (Modifier.isPrivate(m.getModifiers())) continue;
            check(m.getModifiers() == Modifier.PUBLIC, m + " is not just public");
            check(m.getExceptionTypes().length == 0, m + " tells of exceptions");
            face.add(signature(m));
            names.add(m.getName());
        }
        check(face.equals(new TreeSet<>(Arrays.asList(FACE))), "the face is " + face);
        for (Method m : RopeDrums.class.getDeclaredMethods()) {
            check(!Modifier.isPrivate(m.getModifiers()) || !names.contains(m.getName()), m + " has a public name");
            check(m.getParameterCount() <= 7, m + " has too many parameters");
        }
    }

    private static String signature(Method m) {
        StringBuilder text = new StringBuilder(m.getReturnType() + " " + m.getName() + "(");
        for (Class<?> type : m.getParameterTypes()) text.append(text.charAt(text.length() - 1) == '(' ? "" : ",").append(type);
        return text.append(")").toString();
    }

    private static void checkFieldsAndConstructors() {
        check(Modifier.isFinal(RopeDrums.class.getModifiers()), "the class is not final");
        Set<String> constants = new TreeSet<>();
        for (Field f : RopeDrums.class.getDeclaredFields()) {
            if (Modifier.isPrivate(f.getModifiers())) continue;
            check(f.getModifiers() == (Modifier.PUBLIC | Modifier.STATIC | Modifier.FINAL), f + " is no constant");
            constants.add(f.getType() + " " + f.getName());
        }
        check(constants.toString().equals("[int FULL, int NONE, int OUTSIDE, int UNKNOWN]"), "constants: " + constants);
        Constructor<?>[] constructors = RopeDrums.class.getDeclaredConstructors();
        check(constructors.length == 1 && constructors[0].getParameterCount() == 0
            && Modifier.isPublic(constructors[0].getModifiers()), "there is another constructor");
    }

    private static void checkClassesInside() {
        Class<?>[] inside = RopeDrums.class.getDeclaredClasses();
        check(inside.length <= 12, "too many classes");
        for (Class<?> c : inside) {
            int m = c.getModifiers();
            check(Modifier.isStatic(m) && !Modifier.isPublic(m) && !Modifier.isProtected(m), c + " is seen, or not static");
            for (Field f : c.getDeclaredFields()) {
                if (!Modifier.isStatic(f.getModifiers())) continue;
                check(Modifier.isFinal(f.getModifiers()) && f.getType() == int.class, f + " is no constant int");
            }
        }
    }

    private static void checkSource(String source) {
        String code = source.replaceAll("(?s)/\\*.*?\\*/", " ").replaceAll("//[^\n]*", " ");
        String[] never = {"throw", "throws", "try", "catch", "finally", "synchronized", "assert", "import", "package",
            "var", "strictfp", "Float", "Double", "Exception", "System", "equals", "hashCode", "toString"};
        for (String word : never) {
            check(!Pattern.compile("\\b" + word + "\\b").matcher(code).find(), "the source has the word " + word);
        }
        check(!code.contains("->") && !code.contains("::"), "the source has a lambda or a method reference");
        Matcher library = Pattern.compile("\\b(?:Math|Long|Integer)\\.\\w+").matcher(code);
        while (library.find()) {
            check(Set.of("Math.max", "Math.min", "Long.compare").contains(library.group()), library.group() + " is used");
        }
    }
}
