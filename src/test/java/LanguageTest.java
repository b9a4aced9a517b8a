import java.io.IOException;
import java.lang.reflect.Constructor;
import java.lang.reflect.Field;
import java.lang.reflect.Method;
import java.lang.reflect.Modifier;
import java.nio.file.Files;
import java.nio.file.Path;
import java.util.Arrays;
import java.util.Set;
import java.util.TreeSet;
import java.util.regex.Matcher;
import java.util.regex.Pattern;

/** The face of the document, and those rules of LANGUAGE.md that can be seen without running. */
public final class LanguageTest {
    private static final Due D = new Due("LanguageTest");
    private static final String[] FACE = {
        "days(int)", "person()", "heir(int,int)", "death(int,int)", "died(int,int)",
        "act(int,int,int,int,int)", "work(int)", "end(int,int)", "inRight(int,int,int)",
        "sell(int,int,int,int)", "pledge(int,int,int,int)", "redeem(int,int,int)", "held(int,int,int)",
        "agree(int,int,boolean)", "license(int,int,int,int,int)", "may(int,int,int,int,int)",
        "line(int,int)", "common(int,boolean)", "alike(int,int)", "pair(int,int,int,int)",
        "copied(int,int,int)", "count(int)"};

    public static void main(String[] args) throws IOException {
        face();
        constants();
        hiddenMembers();
        nestedClasses();
        source(Files.readString(Path.of(args.length > 0 ? args[0] : "src/main/java/CopyRegister.java")));
        D.close();
    }

    private static void face() {
        Set<String> got = new TreeSet<>();
        for (Method m : CopyRegister.class.getDeclaredMethods()) {
            if (Modifier.isPublic(m.getModifiers())) {
                StringBuilder name = new StringBuilder(m.getName()).append('(');
                for (int i = 0; i < m.getParameterCount(); i++) {
                    name.append(i == 0 ? "" : ",").append(m.getParameterTypes()[i].getName());
                }
                got.add(name.append(')').toString());
                D.holds(m.getName() + " answers an int", m.getReturnType() == int.class);
            }
        }
        D.holds("the public methods " + got, got.equals(new TreeSet<>(Arrays.asList(FACE))));
        D.holds("public and final", CopyRegister.class.getModifiers() == (Modifier.PUBLIC | Modifier.FINAL));
        Constructor<?>[] constructors = CopyRegister.class.getDeclaredConstructors();
        D.holds("one public constructor without parameters", constructors.length == 1
                && Modifier.isPublic(constructors[0].getModifiers()) && constructors[0].getParameterCount() == 0);
    }

    private static void constants() {
        D.due("NONE", CopyRegister.NONE, -1);
        D.due("BAD", CopyRegister.BAD, -2);
        D.due("NOT", CopyRegister.NOT, -3);
        D.due("FULL", CopyRegister.FULL, -4);
        D.due("NOBODY", CopyRegister.NOBODY, -5);
    }

    private static void hiddenMembers() {
        Set<String> open = new TreeSet<>();
        for (Field f : CopyRegister.class.getDeclaredFields()) {
            if (!Modifier.isPrivate(f.getModifiers())) open.add(f.getName());
        }
        D.holds("open fields " + open, open.equals(Set.of("NONE", "BAD", "NOT", "FULL", "NOBODY")));
        Set<String> publicNames = new TreeSet<>();
        for (String call : FACE) publicNames.add(call.substring(0, call.indexOf('(')));
        for (Method m : CopyRegister.class.getDeclaredMethods()) {
            boolean isPublic = Modifier.isPublic(m.getModifiers());
            D.holds(m + " is public or private", isPublic || Modifier.isPrivate(m.getModifiers()));
            D.holds(m + " bears no public name", isPublic || !publicNames.contains(m.getName()));
        }
    }

    private static void nestedClasses() {
        Class<?>[] nested = CopyRegister.class.getDeclaredClasses();
        D.holds("at most twelve classes", nested.length + 1 <= 12);
        for (Class<?> c : nested) {
            D.holds(c + " is static", Modifier.isStatic(c.getModifiers()));
            D.holds(c + " is not public", !Modifier.isPublic(c.getModifiers()));
            D.holds(c + " has few fields", c.getDeclaredFields().length <= 20);
            for (Field f : c.getDeclaredFields()) {
                D.holds(f + " is no changing static", !Modifier.isStatic(f.getModifiers())
                        || Modifier.isFinal(f.getModifiers()));
            }
        }
    }

    private static void source(String text) {
        String code = text.replaceAll("(?s)/\\*.*?\\*/", "").replaceAll("//[^\n]*", "");
        String[] banned = {"throw", "throws", "try", "catch", "synchronized", "assert", "import", "package",
            "protected", "native", "transient", "volatile", "hashCode", "toString", "->", "::"};
        for (String word : banned) {
            boolean isWord = Character.isLetter(word.charAt(0));
            Matcher m = Pattern.compile(isWord ? "\\b" + word + "\\b" : Pattern.quote(word)).matcher(code);
            D.holds("no " + word + " in the source", !m.find());
        }
        D.holds("no division", !code.matches("(?s).*[/%].*"));
        D.holds("no loop without a condition", !code.matches("(?s).*(while\\s*\\(\\s*true|for\\s*\\([^;]*;\\s*;).*"));
    }
}
