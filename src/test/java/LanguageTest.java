import java.io.IOException;
import java.lang.reflect.Constructor;
import java.lang.reflect.Field;
import java.lang.reflect.Method;
import java.lang.reflect.Modifier;
import java.nio.file.Files;
import java.nio.file.Path;
import java.util.ArrayList;
import java.util.Arrays;
import java.util.List;
import java.util.Set;
import java.util.TreeSet;
import java.util.regex.Matcher;
import java.util.regex.Pattern;

/** The face of the document, and those rules of LANGUAGE.md that its members and its words show. */
public final class LanguageTest {
    private static final String[] FACE = {
        "int card(int,int,int,int,long,int,int)", "int caption(int,long,int)", "int days(int)", "int set(int,int)",
        "int difference(int,int)", "int negative(int)", "int far(int,int)", "int match(int,int)", "int of(int,int)",
        "int series(int,int)", "int gap(int,int)", "int unseen(int)", "int overlap(int,int,int)",
        "int feature(int,int,int)", "int shows(int,int,int)", "int back(int,int,int)", "int later(int,int)",
        "int span(int,int,int)", "int quarrel()", "int culprit()", "int landmark(int,int)", "int walls(long)",
        "int view(int,int)", "int unview(int)", "long stood(int)", "int together(int)", "int write(long,int)",
        "int erase()", "int fault()", "int catalogue()", "int breaks(int)", "int count(int)"};
    private static final Set<String> CONSTANTS = Set.of("NONE", "UNKNOWN", "OUTSIDE", "NOT", "FULL");
    private static final String FORBIDDEN = "throw|try|catch|finally|synchronized|assert|import|package|instanceof|"
        + "record|float|double|strictfp|native|transient|volatile|protected|var|yield|->|::";

    private static void expect(String what, boolean holds) {
        Due.due(what, holds ? 1 : 0, 1);
    }

    private static void face() {
        Set<String> found = new TreeSet<>();
        for (Method method : ViewCards.class.getDeclaredMethods()) {
            if (Modifier.isPrivate(method.getModifiers())) continue;
            expect(method + " is public and no more", method.getModifiers() == Modifier.PUBLIC);
            StringBuilder call = new StringBuilder(method.getReturnType() + " " + method.getName() + "(");
            for (Class<?> type : method.getParameterTypes()) {
                if (call.charAt(call.length() - 1) != '(') call.append(',');
                call.append(type.getName());
            }
            found.add(call.append(')').toString());
        }
        expect("the methods are those of the document: " + found, found.equals(new TreeSet<>(Arrays.asList(FACE))));
        Constructor<?>[] constructors = ViewCards.class.getDeclaredConstructors();
        expect("one public constructor", constructors.length == 1 && constructors[0].getModifiers() == Modifier.PUBLIC
            && constructors[0].getParameterCount() == 0);
        expect("a public final class", ViewCards.class.getModifiers() == (Modifier.PUBLIC | Modifier.FINAL));
    }

    private static void members() {
        Set<String> publicNames = new TreeSet<>();
        for (String call : FACE) publicNames.add(call.replaceAll("^\\w+ (\\w+).*", "$1"));
        List<Class<?>> classes = new ArrayList<>(Arrays.asList(ViewCards.class.getDeclaredClasses()));
        expect("twelve classes at most", classes.size() < 12);
        for (Class<?> inner : classes) {
            expect(inner + " is static and not public", Modifier.isStatic(inner.getModifiers())
                && !Modifier.isPublic(inner.getModifiers()) && !Modifier.isProtected(inner.getModifiers()));
            expect(inner + " has none inside", inner.getDeclaredClasses().length == 0);
            for (Method method : inner.getDeclaredMethods()) {
                expect(method + " has a name of its own", !publicNames.contains(method.getName()));
            }
        }
        for (Method method : ViewCards.class.getDeclaredMethods()) {
            boolean isPrivate = Modifier.isPrivate(method.getModifiers());
            expect(method + " has a name of its own", !isPrivate || !publicNames.contains(method.getName()));
        }
        classes.add(ViewCards.class);
        for (Class<?> one : classes) {
            int fields = 0;
            for (Field field : one.getDeclaredFields()) {
                boolean isStatic = Modifier.isStatic(field.getModifiers());
                if (!isStatic) fields++;
                expect(field + " is final, being static", !isStatic || Modifier.isFinal(field.getModifiers()));
                boolean isPublic = one == ViewCards.class && CONSTANTS.contains(field.getName());
                boolean isAsTold = isPublic ? Modifier.isPublic(field.getModifiers()) && isStatic
                    : one != ViewCards.class || Modifier.isPrivate(field.getModifiers());
                expect(field + " is seen from where it should be", isAsTold);
            }
            expect(one + " has some twenty fields at most", fields <= 20);
            for (Method method : one.getDeclaredMethods()) {
                expect(method + " takes seven at most", method.getParameterCount() <= 7);
                expect(method + " is no bridge", !method.isSynthetic());
            }
        }
    }

    private static void words() throws IOException {
        Path source = Path.of(System.getProperty("project", "."), "src/main/java/ViewCards.java");
        String code = Files.readString(source);
        expect("signs of 1 to 127 alone", code.chars().allMatch(sign -> sign > 0 && sign < 128));
        String bare = code.replaceAll("(?s)/\\*.*?\\*/", "").replaceAll("//[^\n]*", "").replaceAll("\"[^\"\n]*\"", "\"\"");
        Matcher forbidden = Pattern.compile("(?<!\\w)(" + FORBIDDEN + ")(?!\\w)").matcher(bare);
        expect("no word that the rules forbid", !forbidden.find());
        expect("no static initialiser", !Pattern.compile("static\\s*\\{").matcher(bare).find());
        int opened = 0;
        int line = 0;
        for (String text : bare.split("\n")) {
            line++;
            if (text.matches(" {4}( {4})?[^ }].*\\{")) opened = line;
            if (text.matches(" {4}( {4})?\\}")) expect("a method of sixty lines at most", line - opened <= 60 || opened == 0);
        }
    }

    public static void main(String[] args) throws IOException {
        face();
        members();
        words();
        Due.end();
    }
}
