import java.io.IOException;
import java.lang.reflect.Constructor;
import java.lang.reflect.Field;
import java.lang.reflect.Method;
import java.lang.reflect.Modifier;
import java.nio.file.Files;
import java.nio.file.Path;
import java.util.Set;
import java.util.TreeSet;
import java.util.regex.Pattern;

/** The public face, and the rules of LANGUAGE.md that names and words show; LanguageTest has the others. */
public final class FaceTest {
    private static final String[] METHODS = {
        "feed(int,int,int,int,int)", "trim(int)", "hash(int)", "hashByte(int)", "shape(int,int,int,int,int,int)",
        "seed(int,long,long)", "key()", "root(int)", "sign()", "signWith(long,long)", "signed(int)", "alter(int,int)",
        "cut(int)", "verify()", "ledTo(int)", "index(int)", "leaf(int,int,int,int)", "told(int)",
    };
    private static final String[] CONSTANTS = {"OUTSIDE", "STATE", "FULL", "NONE"};
    private static final String[] FORBIDDEN = {
        "\\b(throws|Object|Random|Thread|nanoTime|currentTimeMillis|getenv|getProperty|File|Files)\\b", "Exact\\b",
    };

    private final Due due = new Due();

    public static void main(String[] args) throws IOException {
        FaceTest test = new FaceTest();
        test.methods();
        test.constants();
        test.constructor();
        test.classesInside();
        test.words();
        test.due.end();
    }

    private static boolean isPrivate(int modifiers) {
        return Modifier.isPrivate(modifiers);
    }

    private static String signatureOf(Method method) {
        StringBuilder text = new StringBuilder(method.getName()).append('(');
        for (Class<?> type : method.getParameterTypes()) {
            text.append(text.charAt(text.length() - 1) == '(' ? "" : ",").append(type.getName());
        }
        return text.append(')').toString();
    }

    private void methods() {
        Set<String> seen = new TreeSet<>();
        for (Method method : HashSigner.class.getDeclaredMethods()) {
            if (!isPrivate(method.getModifiers())) {
                seen.add(signatureOf(method));
                due.is(method + " gives an int", method.getReturnType() == int.class ? 1 : 0, 1);
                due.is(method + " is public", Modifier.isPublic(method.getModifiers()) ? 1 : 0, 1);
                due.is(method + " is not static", Modifier.isStatic(method.getModifiers()) ? 1 : 0, 0);
            }
        }
        due.is("the methods", seen.toString(), new TreeSet<>(Set.of(METHODS)).toString());
    }

    private void constants() {
        Set<String> seen = new TreeSet<>();
        for (Field field : HashSigner.class.getDeclaredFields()) {
            if (!isPrivate(field.getModifiers())) {
                seen.add(field.getName());
            }
        }
        due.is("the constants", seen.toString(), new TreeSet<>(Set.of(CONSTANTS)).toString());
        due.is("OUTSIDE", HashSigner.OUTSIDE, -2);
        due.is("STATE", HashSigner.STATE, -3);
        due.is("FULL", HashSigner.FULL, -4);
        due.is("NONE", HashSigner.NONE, -9);
    }

    private void constructor() {
        int modifiers = HashSigner.class.getModifiers();
        due.is("the class is public and final",
            Modifier.isPublic(modifiers) && Modifier.isFinal(modifiers) ? 1 : 0, 1);
        Constructor<?>[] all = HashSigner.class.getDeclaredConstructors();
        due.is("how many constructors", all.length, 1);
        due.is("its parameters", all[0].getParameterCount(), 0);
        due.is("it is public", Modifier.isPublic(all[0].getModifiers()) ? 1 : 0, 1);
    }

    private void classesInside() {
        Set<String> publicNames = new TreeSet<>();
        for (String method : METHODS) {
            publicNames.add(method.substring(0, method.indexOf('(')));
        }
        for (Class<?> type : HashSigner.class.getDeclaredClasses()) {
            due.is(type + " is private", isPrivate(type.getModifiers()) ? 1 : 0, 1);
            for (Method method : type.getDeclaredMethods()) {
                due.is(method + " bears a public name", publicNames.contains(method.getName()) ? 1 : 0, 0);
            }
        }
        for (Method method : HashSigner.class.getDeclaredMethods()) {
            boolean shares = isPrivate(method.getModifiers()) && publicNames.contains(method.getName());
            due.is(method + " bears a public name", shares ? 1 : 0, 0);
        }
    }

    private void words() throws IOException {
        String source = Files.readString(Path.of("src/main/java/HashSigner.java"));
        String code = source.replaceAll("(?s)/\\*.*?\\*/", " ").replaceAll("//[^\n]*", " ");
        for (String pattern : FORBIDDEN) {
            due.is("the code has " + pattern, Pattern.compile(pattern).matcher(code).find() ? 1 : 0, 0);
        }
    }
}
