import java.io.IOException;
import java.util.ArrayList;
import java.util.HashMap;
import java.util.List;
import java.util.Map;
import java.util.Set;
import java.util.TreeSet;

/** Those rules of LANGUAGE.md that the compiled code shows, and that no call makes an object. */
public final class CodeTest {
    private static final int DEEPEST = 8;
    private static final int ARRAY_STORE = 0x53, NEW = 0xbb, NEW_ARRAY = 0xbc, NEW_ROW = 0xbd, THROW = 0xbf, CAST = 0xc0;
    private static final int INSTANCE_OF = 0xc1, ENTER = 0xc2, EXIT = 0xc3, NEW_TABLE = 0xc5, DYNAMIC = 0xba;
    private static final Set<Integer> MAKING = Set.of(NEW, NEW_ARRAY, NEW_ROW, NEW_TABLE, ARRAY_STORE);
    private static final Set<Integer> FORBIDDEN = Set.of(THROW, CAST, INSTANCE_OF, ENTER, EXIT, DYNAMIC);
    private static final Set<String> LIBRARY = Set.of(
        "java/lang/Object.<init>()V", "java/lang/Math.max(II)I", "java/lang/Math.min(II)I", "java/lang/Math.abs(I)I",
        "java/lang/Integer.bitCount(I)I", "java/lang/Long.bitCount(J)I", "java/lang/String.length()I",
        "java/lang/String.charAt(I)C");

    private final Map<String, ClassFile.Code> methods = new HashMap<>();

    private CodeTest() throws IOException {
        List<Class<?>> classes = new ArrayList<>(List.of(ViewCards.class.getDeclaredClasses()));
        classes.add(ViewCards.class);
        for (Class<?> one : classes) {
            for (ClassFile.Code code : new ClassFile(one).methods) methods.put(code.name, code);
        }
    }

    private static void expect(String what, boolean holds) {
        Due.due(what, holds ? 1 : 0, 1);
    }

    private void library() {
        Set<String> outside = new TreeSet<>();
        for (ClassFile.Code code : methods.values()) {
            for (String call : code.calls) {
                if (!methods.containsKey(call)) outside.add(call);
            }
        }
        expect("no library but " + LIBRARY + ": " + outside, LIBRARY.containsAll(outside));
    }

    private void instructions() {
        for (ClassFile.Code code : methods.values()) {
            boolean isConstructor = code.name.contains(".<init>");
            expect(code.name + " has instructions", !code.instructions.isEmpty());
            expect(code.name + " is no static initialiser", !code.name.contains(".<clinit>"));
            expect(code.name + " catches nothing", code.handlers == 0);
            for (int instruction : code.instructions) {
                String what = code.name + ", instruction " + instruction;
                expect(what + " throws, casts and locks nothing", !FORBIDDEN.contains(instruction));
                expect(what + " makes nothing outside of a constructor", isConstructor || !MAKING.contains(instruction));
            }
        }
    }

    /** How many calls of the file stand open at once, at most, with a method; a recursion is far too deep. */
    private int depthOf(String name, int above) {
        if (above > DEEPEST || !methods.containsKey(name)) return 0;
        int deepest = 0;
        for (String call : methods.get(name).calls) deepest = Math.max(deepest, depthOf(call, above + 1));
        return 1 + deepest;
    }

    private void depths() {
        for (String name : methods.keySet()) {
            int depth = depthOf(name, 0);
            expect(name + " goes " + depth + " deep", depth <= DEEPEST);
        }
        expect("the deepest call is seen", depthOf("ViewCards.culprit()I", 0) > 4);
    }

    public static void main(String[] args) throws IOException {
        CodeTest test = new CodeTest();
        expect("the file's methods are seen", test.methods.size() > 100);
        test.library();
        test.instructions();
        test.depths();
        Due.end();
    }
}
