import java.io.ByteArrayInputStream;
import java.io.DataInputStream;
import java.io.IOException;
import java.io.InputStream;
import java.lang.reflect.Field;
import java.lang.reflect.Modifier;
import java.nio.file.Files;
import java.nio.file.Path;
import java.util.ArrayList;
import java.util.HashMap;
import java.util.List;
import java.util.Map;
import java.util.Set;
import java.util.TreeSet;
import java.util.regex.Pattern;

/** Those rules of LANGUAGE.md that can be read off the program's text and its compiled classes. */
public final class LanguageTest {
    private static final Check CHECK = new Check("LanguageTest");
    private static final Path PROGRAM = Path.of("src/main/java/PhraseFerry.java");
    private static final int MOST_CLASSES = 12;
    private static final int MOST_FIELDS = 20;
    private static final int MOST_LINES = 60;

    private static final Set<String> IMPORTS = Set.of("java.util.ArrayList", "java.util.List",
            "java.util.Iterator", "java.util.Arrays", "java.util.NoSuchElementException");
    private static final Set<String> EXCEPTIONS = Set.of("IllegalStateException", "IllegalArgumentException",
            "IndexOutOfBoundsException", "ArithmeticException", "UnsupportedOperationException",
            "NoSuchElementException", "RuntimeException");
    private static final Map<String, Set<String>> LIBRARY = Map.of(
            "java/lang/Object", Set.of("<init>"),
            "java/lang/String", Set.of("length", "charAt", "isEmpty", "equals", "indexOf", "substring",
                    "toCharArray", "<init>"),
            "java/lang/StringBuilder", Set.of("<init>", "append", "charAt", "setCharAt", "setLength",
                    "deleteCharAt", "reverse", "length", "toString"),
            "java/util/ArrayList", Set.of("<init>", "add", "get", "set", "remove", "size", "isEmpty", "clear"),
            "java/lang/Integer", Set.of("compare", "max", "min", "bitCount"),
            "java/lang/Long", Set.of("compare", "max", "min", "bitCount"),
            "java/lang/Math", Set.of("max", "min", "abs", "floorDiv", "floorMod"),
            "java/lang/System", Set.of("arraycopy"),
            "java/util/Arrays", Set.of("copyOf", "copyOfRange", "fill"));
    private static final Set<String> PLAIN = Set.of("int", "long", "short", "byte", "char", "boolean", "double",
            "float", "String", "StringBuilder", "ArrayList", "List");
    private static final Set<String> CONSTANT = Set.of("int", "long", "boolean", "char", "String",
            "int[]", "long[]", "char[]", "byte[]");

    public static void main(String[] args) throws IOException {
        List<String> lines = Files.readAllLines(PROGRAM);
        text(lines);
        methods(lines);
        List<Class<?>> all = new ArrayList<>(List.of(PhraseFerry.class.getDeclaredClasses()));
        all.add(PhraseFerry.class);
        CHECK.is("11: few classes", all.size() <= MOST_CLASSES, true);
        for (Class<?> one : all) {
            CHECK.is("2: classes inside go no deeper", one == PhraseFerry.class
                    || one.getDeclaredClasses().length == 0, true);
            fields(one);
            calls(one);
        }
        CHECK.end();
    }

    private static void text(List<String> lines) {
        for (String line : lines) {
            CHECK.is("4: plain signs in: " + line, line.chars().allMatch(sign -> sign >= 32 && sign <= 126), true);
            if (line.startsWith("import ")) {
                CHECK.is("4: " + line, IMPORTS.contains(line.substring(7, line.length() - 1)), true);
            }
            CHECK.is("1: no " + line, line.startsWith("package "), false);
        }
        String code = String.join("\n", lines).replaceAll("(?s)/\\*.*?\\*/", "").replaceAll("//.*", "")
                .replaceAll("\"[^\"\n]*\"", "\"\"");
        for (String word : List.of("finally", "synchronized", "assert", "native", "volatile", "transient",
                "equals", "hashCode", "toString", "getMessage", "Exception \\w+ =", "static \\{", "->", "::")) {
            String form = Character.isLetter(word.charAt(0)) ? "\\b" + word : word;
            CHECK.is("6, 3, 5: no " + word, Pattern.compile(form).matcher(code).find(), false);
        }
    }

    /** A method of the outer class is set in by four blanks, one of a class inside by eight. */
    private static void methods(List<String> lines) {
        Pattern head = Pattern.compile("( {4}| {8})[\\w<>\\[\\], ]+\\(.*");
        int from = -1;
        String end = "";
        for (int i = 0; i < lines.size(); i++) {
            String line = lines.get(i);
            if (head.matcher(line).matches() && !line.endsWith(";")) {
                from = i;
                end = line.substring(0, line.length() - line.stripLeading().length()) + "}";
            } else if (from >= 0 && line.equals(end)) {
                CHECK.is("11: short: " + lines.get(from).strip(), i - from < MOST_LINES, true);
                from = -1;
            }
        }
    }

    private static void fields(Class<?> one) {
        int count = 0;
        for (Field field : one.getDeclaredFields()) {
            if (field.isSynthetic()) {
                continue;
            }
            Class<?> type = field.getType();
            if (Modifier.isStatic(field.getModifiers())) {
                CHECK.is("5: final: " + field, Modifier.isFinal(field.getModifiers()), true);
                CHECK.is("5: a constant: " + field, CONSTANT.contains(type.getSimpleName()), true);
            } else {
                count++;
                CHECK.is("3: the type of " + field, isAllowed(type), true);
            }
        }
        CHECK.is("11: few fields: " + one, count <= MOST_FIELDS, true);
    }

    private static boolean isAllowed(Class<?> type) {
        Class<?> part = type.isArray() ? type.getComponentType() : type;
        if (part.isArray()) {
            return part.getComponentType().isPrimitive();
        }
        return PLAIN.contains(part.getSimpleName()) || part.getName().startsWith("PhraseFerry$");
    }

    /** All that a compiled class calls outside the program stands in its table of constants. */
    private static void calls(Class<?> one) throws IOException {
        for (String call : new TreeSet<>(constants(one))) {
            String owner = call.substring(0, call.indexOf('.'));
            String name = call.substring(call.indexOf('.') + 1);
            String last = owner.substring(owner.lastIndexOf('/') + 1);
            boolean isOwn = owner.startsWith("PhraseFerry");
            boolean isThrown = EXCEPTIONS.contains(last) && name.equals("<init>");
            boolean isListed = LIBRARY.getOrDefault(owner, Set.of()).contains(name);
            CHECK.is("4: " + one + " calls " + call, isOwn || isThrown || isListed, true);
        }
    }

    private static List<String> constants(Class<?> one) throws IOException {
        byte[] bytes;
        try (InputStream in = one.getResourceAsStream("/" + one.getName() + ".class")) {
            bytes = in.readAllBytes();
        }
        DataInputStream in = new DataInputStream(new ByteArrayInputStream(bytes));
        in.skipBytes(8);
        int count = in.readUnsignedShort();
        Map<Integer, String> texts = new HashMap<>();
        Map<Integer, int[]> pairs = new HashMap<>();
        List<Integer> methods = new ArrayList<>();
        for (int i = 1; i < count; i++) {
            int tag = in.readUnsignedByte();
            switch (tag) {
                case 1 -> texts.put(i, in.readUTF());
                case 3, 4 -> in.skipBytes(4);
                case 5, 6 -> {
                    in.skipBytes(8);
                    i++;
                }
                case 7, 8 -> pairs.put(i, new int[] {in.readUnsignedShort()});
                case 9, 10, 11, 12 -> {
                    pairs.put(i, new int[] {in.readUnsignedShort(), in.readUnsignedShort()});
                    if (tag == 10 || tag == 11) {
                        methods.add(i);
                    }
                }
                default -> CHECK.is("2, 10: a lambda or joined texts in " + one, tag, 0);
            }
            if (tag > 12) {
                break;
            }
        }
        List<String> calls = new ArrayList<>();
        for (int method : methods) {
            int[] pair = pairs.get(method);
            calls.add(texts.get(pairs.get(pair[0])[0]) + "." + texts.get(pairs.get(pair[1])[0]));
        }
        return calls;
    }
}
