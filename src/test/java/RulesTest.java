import java.io.IOException;
import java.lang.management.ManagementFactory;
import java.lang.reflect.Constructor;
import java.lang.reflect.Field;
import java.lang.reflect.Method;
import java.lang.reflect.Modifier;
import java.nio.file.Files;
import java.nio.file.Path;
import java.util.Arrays;
import java.util.List;
import java.util.Set;
import java.util.TreeSet;
import java.util.regex.Matcher;
import java.util.regex.Pattern;

/** What ../shared/LANGUAGE.md asks of the source, as far as it can be looked up, and the room of a run. */
public final class RulesTest {
    private static final Check CHECK = new Check();
    private static final Path SOURCE = Path.of("src/main/java/GrazeBook.java");
    private static final List<String> FACE = List.of("piece(int,int,int,boolean)", "owner(int)", "house(int)",
        "rate(int,int,int)", "weather(int,int,int)", "right(int,int,int,int,int)", "lend(int,int,int,int)",
        "sell(int,int)", "move(int,int)", "herd(int,int,int)", "put(int,int)", "drive(int,int)", "covered(int)",
        "lacks(int)", "over(int,int)", "pass(int)", "rest(int,int)", "cut(int)", "pound(int)", "free(int)",
        "plan(int,int,int,int)", "planned(int,int)", "pieceOf(int,int)", "rightOf(int,int)", "herdOf(int,int)",
        "ownerOf(int,int)", "count(int)");

    public static void main(String[] args) throws IOException {
        face();
        innerClasses();
        words();
        divisors();
        shortMethods();
        room();
        CHECK.end();
    }

    private static void yes(String what, boolean so) {
        CHECK.due(what, so ? 1 : 0, 1);
    }

    private static void face() {
        yes("the class is public and final", (GrazeBook.class.getModifiers() & (Modifier.PUBLIC | Modifier.FINAL))
            == (Modifier.PUBLIC | Modifier.FINAL));
        Constructor<?>[] makers = GrazeBook.class.getDeclaredConstructors();
        yes("one public constructor", makers.length == 1 && Modifier.isPublic(makers[0].getModifiers())
            && makers[0].getParameterCount() == 0);
        Set<String> seen = new TreeSet<>();
        for (Method method : GrazeBook.class.getDeclaredMethods()) {
            if (Modifier.isPublic(method.getModifiers())) {
                yes(method + " answers an int", method.getReturnType() == int.class);
                seen.add(signature(method));
            } else {
                yes(method + " is private", Modifier.isPrivate(method.getModifiers()));
            }
        }
        yes("the face is the document's: " + seen, seen.equals(new TreeSet<>(FACE)));
        for (Field field : GrazeBook.class.getDeclaredFields()) {
            yes(field + " is private", Modifier.isPrivate(field.getModifiers()));
        }
    }

    private static String signature(Method method) {
        StringBuilder text = new StringBuilder(method.getName()).append('(');
        for (Class<?> type : method.getParameterTypes()) {
            text.append(text.charAt(text.length() - 1) == '(' ? "" : ",").append(type.getName());
        }
        return text.append(')').toString();
    }

    private static void innerClasses() {
        Class<?>[] inner = GrazeBook.class.getDeclaredClasses();
        yes("at most twelve classes", inner.length + 1 <= 12);
        fieldsAndMethods(GrazeBook.class);
        for (Class<?> type : inner) {
            yes(type + " is static", Modifier.isStatic(type.getModifiers()));
            yes(type + " is not public", !Modifier.isPublic(type.getModifiers()));
            fieldsAndMethods(type);
        }
    }

    private static void fieldsAndMethods(Class<?> type) {
        int own = 0;
        for (Field field : type.getDeclaredFields()) {
            if (Modifier.isStatic(field.getModifiers())) {
                yes(field + " is final", Modifier.isFinal(field.getModifiers()));
            } else {
                own++;
            }
        }
        yes(type + " has at most twenty fields", own <= 20);
        for (Method method : type.getDeclaredMethods()) {
            boolean ofFace = FACE.stream().anyMatch(call -> call.startsWith(method.getName() + "("));
            yes(method + " bears no public name", Modifier.isPublic(method.getModifiers()) || !ofFace);
            yes(method + " takes at most seven", method.getParameterCount() <= 7);
        }
    }

    private static String code() throws IOException {
        return Files.readString(SOURCE).replaceAll("(?s)/\\*.*?\\*/", "").replaceAll("//[^\n]*", "");
    }

    private static void words() throws IOException {
        String code = code();
        for (String word : List.of("throw", "throws", "try", "catch", "synchronized", "assert", "import", "package",
            "equals", "hashCode", "toString", "double", "float", "\\w+Exact", "null", "Object")) {
            yes("no " + word, !code.matches("(?s).*\\b" + word + "\\b.*"));
        }
        yes("no lambda", !code.contains("->"));
        yes("no method reference", !code.contains("::"));
        yes("all in ASCII", Files.readString(SOURCE).chars().allMatch(c -> c < 128));
    }

    /** A divisor is a constant that is not 0, or it is tested in the lines just ahead. */
    private static void divisors() throws IOException {
        String[] lines = code().split("\n");
        for (int i = 0; i < lines.length; i++) {
            Matcher divisor = Pattern.compile("[/%]=? *(\\w+)").matcher(lines[i]);
            while (divisor.find()) {
                String name = divisor.group(1);
                String ahead = String.join("\n", Arrays.copyOfRange(lines, Math.max(0, i - 4), i));
                boolean constant = name.matches("[A-Z_]+|[1-9]\\d*");
                yes("it is tested: " + lines[i].trim(), constant || ahead.contains(name + " > 0"));
            }
        }
    }

    private static void shortMethods() throws IOException {
        String[] lines = Files.readString(SOURCE).split("\n");
        int longest = 0;
        int start = 0;
        for (int i = 0; i < lines.length; i++) {
            if (lines[i].matches(" {4}( {4})?[a-zA-Z].*\\) \\{")) {
                start = i;
            } else if (lines[i].matches(" {4}( {4})?\\}")) {
                longest = Math.max(longest, i - start + 1);
            }
        }
        yes("methods have at most sixty lines: " + longest, longest <= 60);
    }

    /** All runs live in one room, so that the dearest calls are to make nothing that stays. */
    private static void room() {
        var threads = (com.sun.management.ThreadMXBean) ManagementFactory.getThreadMXBean();
        long thread = Thread.currentThread().getId();
        GrazeBook[] books = new GrazeBook[2];
        long[] made = new long[books.length];
        for (int i = 0; i < books.length; i++) {
            GrazeBook book = new GrazeBook();
            books[i] = book;
            fill(book);
            long before = threads.getThreadAllocatedBytes(thread);
            for (int call = 0; call < 50; call++) {
                book.plan(call % 20, -1, 4, 10);
                book.plan(call % 20, (call + 1) % 20, 2, 10);
                book.pass(1);
                book.lacks(0);
                book.cut(call % 6);
                book.over(call % 6, 3);
                book.ownerOf(0, 3);
            }
            made[i] = threads.getThreadAllocatedBytes(thread) - before;
        }
        yes("calls make next to nothing: " + Arrays.toString(made), made[1] < 20_000);
    }

    private static void fill(GrazeBook book) {
        for (int p = 0; p < 6; p++) {
            book.piece(500, 1000, 100, p % 2 == 0);
        }
        book.owner(5);
        book.owner(5);
        for (int r = 0; r < 60; r++) {
            book.right(0, r % 2, 1000, 720, 0);
        }
        for (int h = 0; h < 20; h++) {
            book.herd(h % 2, h % 3, 10);
            book.put(h, h % 5);
        }
    }
}
