import java.io.DataInputStream;
import java.io.IOException;
import java.lang.reflect.Array;
import java.lang.reflect.Field;
import java.lang.reflect.Method;
import java.lang.reflect.Modifier;
import java.nio.file.Files;
import java.nio.file.Path;
import java.util.ArrayList;
import java.util.IdentityHashMap;
import java.util.List;
import java.util.Map;
import java.util.Set;
import java.util.regex.Matcher;
import java.util.regex.Pattern;

/**
 * The rules of LANGUAGE.md that can be read off the source of the class and its compiled classes. (Rule 1
 * stands in FaceTest.) Where a rule allows more than the class needs, what it needs is what is held here.
 */
final class LanguageTest {
    private static final Checks CHECKS = new Checks();
    private static final Set<String> THROWN = Set.of("IllegalStateException", "IllegalArgumentException",
            "IndexOutOfBoundsException", "ArithmeticException", "UnsupportedOperationException",
            "NoSuchElementException", "RuntimeException");
    private static final Set<String> LIBRARY = Set.of(
            "java/lang/Object.<init>()V",
            "java/lang/Math.abs(J)J", "java/lang/Math.max(II)I",
            "java/lang/StringBuilder.<init>()V",
            "java/lang/StringBuilder.append(C)Ljava/lang/StringBuilder;",
            "java/lang/StringBuilder.append(I)Ljava/lang/StringBuilder;",
            "java/lang/StringBuilder.toString()Ljava/lang/String;");
    private static final Set<String> WORDS_RULED_OUT = Set.of("import", "package", "try", "catch", "finally",
            "synchronized", "assert", "native", "volatile", "transient", "var");
    private static final Pattern THROW = Pattern.compile("throw\\b(?! new (\\w+)\\((\"[^\"]*\")?\\);)");
    private static final Pattern THROW_NEW = Pattern.compile("throw new (\\w+)\\(");
    private static final Pattern METHOD_HEAD = Pattern.compile("(?m)^( {4}| {8})(?! |if |for |while |switch )[\\w\\[\\] ]+\\([^;{]*\\)[\\w, \\n]*\\{$");

    public static void main(String[] args) throws Exception {
        List<Class<?>> classes = new ArrayList<>();
        addWithInner(Pebblegate.class, classes);
        CHECKS.due("rule 11: classes", classes.size() <= 12, true);
        for (Class<?> one : classes) {
            checkFields(one);
            checkMethods(one);
            checkLibrary(one);
        }
        String source = Files.readString(Path.of("src/main/java/Pebblegate.java"));
        checkWords(source);
        checkThrows(source);
        checkLengths(source);
        checkRoom();
        CHECKS.end();
    }

    private static void addWithInner(Class<?> one, List<Class<?>> all) {
        all.add(one);
        for (Class<?> inner : one.getDeclaredClasses()) {
            int modifiers = inner.getModifiers();
            CHECKS.due("rule 2: static and not public: " + inner, Modifier.isStatic(modifiers) && !Modifier.isPublic(modifiers), true);
            addWithInner(inner, all);
        }
    }

    // ---- rules 3, 5, 6 and 11: fields and methods

    private static void checkFields(Class<?> one) {
        int own = 0;
        for (Field field : one.getDeclaredFields()) {
            CHECKS.due("rule 3: the type of " + field, isAllowed(field.getType()), true);
            if (Modifier.isStatic(field.getModifiers())) {
                boolean isConstant = Modifier.isFinal(field.getModifiers()) && field.getType().isPrimitive();
                CHECKS.due("rule 5: a constant: " + field, isConstant, true);
            } else {
                own++;
            }
        }
        CHECKS.due("rule 11: fields of " + one, own <= 20, true);
    }

    private static void checkMethods(Class<?> one) {
        for (Method method : one.getDeclaredMethods()) {
            CHECKS.due("rule 11: parameters of " + method, method.getParameterCount() <= 7, true);
            CHECKS.due("rule 3: the type of " + method, method.getReturnType() == void.class || isAllowed(method.getReturnType()), true);
            for (Class<?> type : method.getParameterTypes()) {
                CHECKS.due("rule 3: " + type + " in " + method, isAllowed(type), true);
            }
            boolean isOfObject = Set.of("equals", "hashCode", "toString", "finalize", "clone").contains(method.getName());
            CHECKS.due("rule 6: " + method, isOfObject, false);
        }
    }

    private static boolean isAllowed(Class<?> type) {
        if (type.isArray()) {
            Class<?> part = type.getComponentType();
            return part.isPrimitive() || part.isArray() && part.getComponentType().isPrimitive();
        }
        return type.isPrimitive() || type == String.class || type.getNestHost() == Pebblegate.class;
    }

    // ---- rules 4, 10 and 13: what the compiled class calls

    private static void checkLibrary(Class<?> one) throws IOException {
        for (String called : new ConstantPool(one).calls()) {
            boolean isOwn = called.startsWith("Pebblegate");
            boolean isThrown = called.startsWith("java/lang/") && called.contains("Exception.<init>(")
                    && THROWN.contains(called.substring("java/lang/".length(), called.indexOf('.')));
            CHECKS.due("rule 4: it calls " + called, isOwn || isThrown || LIBRARY.contains(called), true);
        }
    }

    /** The names in a compiled class, as the Java machine's book tells how they are written. */
    private static final class ConstantPool {
        private final Object[] texts;
        private final int[] firsts;
        private final int[] seconds;
        private final int[] tags;

        ConstantPool(Class<?> one) throws IOException {
            String file = one.getName() + ".class";
            try (DataInputStream in = new DataInputStream(one.getResourceAsStream(file))) {
                in.readLong();
                int many = in.readUnsignedShort();
                texts = new Object[many];
                firsts = new int[many];
                seconds = new int[many];
                tags = new int[many];
                for (int i = 1; i < many; i++) {
                    tags[i] = in.readUnsignedByte();
                    read(in, i);
                    // A long and a double have two numbers.
                    i += tags[i] == 5 || tags[i] == 6 ? 1 : 0;
                }
            }
        }

        private void read(DataInputStream in, int i) throws IOException {
            switch (tags[i]) {
                case 1 -> texts[i] = in.readUTF();
                case 3, 4 -> in.readInt();
                case 5, 6 -> in.readLong();
                case 7, 8, 16, 19, 20 -> firsts[i] = in.readUnsignedShort();
                case 9, 10, 11, 12, 17, 18 -> {
                    firsts[i] = in.readUnsignedShort();
                    seconds[i] = in.readUnsignedShort();
                }
                case 15 -> {
                    in.readUnsignedByte();
                    in.readUnsignedShort();
                }
                default -> CHECKS.fail("no such tag: " + tags[i]);
            }
        }

        /** "owner.name" and what it takes and gives; what is bound while it runs has no owner. */
        List<String> calls() {
            List<String> calls = new ArrayList<>();
            for (int i = 1; i < tags.length; i++) {
                if (tags[i] == 10 || tags[i] == 11) {
                    calls.add(texts[firsts[firsts[i]]] + "." + described(seconds[i]));
                } else if (tags[i] == 17 || tags[i] == 18) {
                    calls.add("a lambda, or texts joined by +: " + described(seconds[i]));
                }
            }
            return calls;
        }

        private String described(int i) {
            return String.valueOf(texts[firsts[i]]) + texts[seconds[i]];
        }
    }

    // ---- rules 1, 6, 9 and 11: the source

    private static void checkWords(String source) {
        String code = source.replaceAll("(?s)/\\*.*?\\*/", " ").replaceAll("//.*", " ").replaceAll("\"[^\"]*\"", "\"\"");
        for (String word : code.split("\\W+")) {
            CHECKS.due("a word that is ruled out: " + word, WORDS_RULED_OUT.contains(word), false);
        }
        for (String sign : List.of("->", "::", "static {", "while (true)", "for (;;)")) {
            CHECKS.due("a sign that is ruled out: " + sign, code.contains(sign), false);
        }
        CHECKS.due("signs are 1 to 127", source.chars().allMatch(sign -> sign >= 1 && sign <= 127), true);
    }

    private static void checkThrows(String source) {
        CHECKS.due("rule 6: throw new E(\"a written text\") alone", THROW.matcher(source).find(), false);
        Matcher thrown = THROW_NEW.matcher(source);
        while (thrown.find()) {
            CHECKS.due("rule 6: throws " + thrown.group(1), THROWN.contains(thrown.group(1)), true);
        }
    }

    private static void checkLengths(String source) {
        Matcher head = METHOD_HEAD.matcher(source);
        int methods = 0;
        while (head.find()) {
            int end = source.indexOf("\n" + head.group(1) + "}", head.end());
            long lines = source.substring(head.start(), end).lines().count() + 1;
            CHECKS.due("rule 11: lines of" + source.substring(head.start(), head.end()), lines <= 60, true);
            methods++;
        }
        CHECKS.due("methods were found", methods > 100, true);
    }

    // ---- rule 12: what an object holds is made with it, and stays as large

    private static void checkRoom() throws Exception {
        Pebblegate x = Nets.full(99);
        int before = held(x);
        CHECKS.due("a new object holds few: " + before, before < 300, true);
        for (int i = 0; i < 30; i++) {
            x.keep(i % 4);
            x.run(20);
            x.digest();
            x.way(i % 4, i % 2);
            x.reachedText(i % 16);
            x.comesBack(0);
            x.weight(0, -1);
            x.follow(i % 4);
            x.begin(1 + i % 8);
            x.step();
        }
        CHECKS.due("it holds no more behind many calls", held(x), before);
    }

    /** How many objects and arrays, with itself. */
    private static int held(Object root) throws Exception {
        Map<Object, Boolean> found = new IdentityHashMap<>();
        List<Object> waiting = new ArrayList<>(List.of(root));
        found.put(root, true);
        for (int i = 0; i < waiting.size(); i++) {
            for (Object part : partsOf(waiting.get(i))) {
                if (part != null && found.put(part, true) == null) {
                    waiting.add(part);
                }
            }
        }
        return waiting.size();
    }

    private static List<Object> partsOf(Object whole) throws Exception {
        List<Object> parts = new ArrayList<>();
        if (whole instanceof Object[]) {
            for (int i = 0; i < Array.getLength(whole); i++) {
                parts.add(Array.get(whole, i));
            }
        }
        boolean isOwn = whole.getClass().getNestHost() == Pebblegate.class;
        for (Field field : whole.getClass().getDeclaredFields()) {
            if (isOwn && !field.getType().isPrimitive()) {
                field.setAccessible(true);
                parts.add(field.get(whole));
            }
        }
        return parts;
    }
}
