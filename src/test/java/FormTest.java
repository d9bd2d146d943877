import java.io.IOException;
import java.lang.reflect.Array;
import java.lang.reflect.Field;
import java.lang.reflect.Method;
import java.lang.reflect.Modifier;
import java.nio.file.Files;
import java.nio.file.Path;
import java.util.ArrayDeque;
import java.util.Arrays;
import java.util.Collections;
import java.util.Comparator;
import java.util.Deque;
import java.util.IdentityHashMap;
import java.util.List;
import java.util.Random;
import java.util.Set;
import java.util.TreeSet;

/** The class's face, the words that its language leaves out, and how much room and time the greatest runs take. */
public final class FormTest {
    private static final String FACE = """
            boolean forebear(int, int)
            boolean read(int, int, int)
            boolean rule(int, int)
            boolean tear(int)
            int alive(int, int)
            int bird(int)
            int caught(int, float)
            int copy(int, int, int, int, int)
            int count(int)
            int death(int)
            int empty()
            int fits(int, int)
            int found(int)
            int given(int)
            int high(int, int, int, int, int)
            int join(int, int)
            int least()
            int list(int, int)
            int lose(int, int)
            int low(int, int, int, int, int)
            int most()
            int nearest(int, int)
            int nest(int, int)
            int note(long)
            int pair(int)
            int parent(int, int)
            int part(int)
            int record(int, int)
            int ring(int, int)
            int sight(int)
            int tally(int, int, long)
            int there(int, int, int, int)
            int watch(int, int, int)
            int who(int, int, int)
            long noted(int)
            long tallied(int, int)
            """;
    private static final List<String> LEFT_OUT = List.of("->", "::", "throw", "try", "catch (", "finally", "synchronized",
            "assert", "static {", "double", "System.out", "nanoTime", "Math.random", "Thread", "while", "hashCode",
            "toString", "protected");
    private static int wrong = 0;

    private static void check(String what, boolean holds) {
        if (!holds) {
            wrong++;
            System.out.println(what);
        }
    }

    private static String signature(Method method) {
        StringBuilder text = new StringBuilder(method.getReturnType() + " " + method.getName() + "(");
        for (Class<?> type : method.getParameterTypes()) {
            text.append(text.charAt(text.length() - 1) == '(' ? "" : ", ").append(type);
        }
        return text.append(")").toString();
    }

    private static void face() {
        Set<String> open = new TreeSet<>();
        Set<String> openNames = new TreeSet<>();
        for (Method method : BirdBook.class.getDeclaredMethods()) {
            if (Modifier.isPublic(method.getModifiers())) {
                open.add(signature(method));
                openNames.add(method.getName());
            }
        }
        check("the face is " + open, open.equals(new TreeSet<>(FACE.lines().toList())));
        check("the class is open", Modifier.isFinal(BirdBook.class.getModifiers()));
        check("constructors", BirdBook.class.getDeclaredConstructors().length == 1);
        for (Method method : BirdBook.class.getDeclaredMethods()) {
            boolean hidden = Modifier.isPrivate(method.getModifiers()) && !openNames.contains(method.getName());
            check(method + " is neither hidden nor of the face", hidden || open.contains(signature(method)));
        }
        for (Field field : BirdBook.class.getDeclaredFields()) {
            check(field + " can be seen", field.getName().equals("NONE") || Modifier.isPrivate(field.getModifiers()));
        }
        for (Class<?> inside : BirdBook.class.getDeclaredClasses()) {
            check(inside + " is not static", Modifier.isStatic(inside.getModifiers()));
            for (Method method : inside.getDeclaredMethods()) {
                check(method + " has a name of the face", !openNames.contains(method.getName()));
            }
        }
        check("more than twelve classes", BirdBook.class.getDeclaredClasses().length < 12);
    }

    private static void words() throws IOException {
        List<String> lines = Files.readAllLines(Path.of("src/main/java/BirdBook.java"));
        for (String line : lines) {
            String code = line.strip();
            boolean comment = code.startsWith("/") || code.startsWith("*");
            for (String word : LEFT_OUT) {
                check("'" + word + "' stands in: " + line, comment || !code.contains(word));
            }
            check(line, !code.startsWith("import ") || code.equals("import java.util.Arrays;"));
            check(line, !code.startsWith("package "));
        }
    }

    /** Objects, and fields and elements, that can be come to from a book. */
    private static long[] room(BirdBook book) throws IllegalAccessException {
        Set<Object> seen = Collections.newSetFromMap(new IdentityHashMap<>());
        Deque<Object> todo = new ArrayDeque<>(List.of(book));
        long parts = 0;
        while (!todo.isEmpty()) {
            Object next = todo.pop();
            if (!seen.add(next)) {
                continue;
            }
            if (next.getClass().isArray()) {
                parts += Array.getLength(next);
                for (int i = 0; next instanceof Object[] all && i < all.length; i++) {
                    if (all[i] != null) {
                        todo.push(all[i]);
                    }
                }
                continue;
            }
            for (Field field : next.getClass().getDeclaredFields()) {
                if (!Modifier.isStatic(field.getModifiers())) {
                    parts++;
                    field.setAccessible(true);
                    if (!field.getType().isPrimitive() && field.get(next) != null) {
                        todo.push(field.get(next));
                    }
                }
            }
        }
        return new long[] {seen.size(), parts};
    }

    private static void roomTaken() throws IllegalAccessException {
        BirdBook book = new BirdBook();
        long[] first = room(book);
        check("a new book takes " + first[0] + " objects, " + first[1] + " parts", first[0] < 60 && first[1] < 6000);
        for (int day = 0; day < 200; day++) {
            book.watch(day, 3, 100);
        }
        for (int i = 0; i < 300; i++) {
            book.note(i);
        }
        long[] last = room(book);
        check("a full book takes " + last[0] + " objects, " + last[1] + " parts", last[0] < 500 && last[1] < 27000);
    }

    /** A book of 60 RINGS, drawn so that many are alike. */
    private static BirdBook crowdedBook(Random random, int signs) {
        BirdBook book = new BirdBook();
        Set<Integer> drawn = new TreeSet<>();
        while (drawn.size() < 60) {
            drawn.add(random.nextInt(signs * signs * signs * signs));
        }
        for (int all : drawn) {
            int left = all;
            for (int leg = 0; leg < 4; leg++) {
                book.read(0, leg, left % signs);
                left /= signs;
            }
            book.ring(0, BirdBook.NONE);
        }
        return book;
    }

    /** Lists of up to 16 HALVES, drawn so that many BIRDS FIT each; no book is called more than 512 times. */
    private static void hardLists() {
        long start = System.nanoTime();
        for (int seed = 0; seed < 300; seed++) {
            Random random = new Random(seed);
            int signs = 4 + random.nextInt(20);
            BirdBook book = crowdedBook(random, signs);
            int listed = 0;
            for (int tries = 0; tries < 30 && listed < 16; tries++) {
                for (int leg = random.nextInt(4); leg < 4; leg++) {
                    book.read(0, leg, random.nextInt(signs));
                }
                listed = Math.max(listed, book.list(book.sight(1), 0));
            }
            Set<Integer> birds = new TreeSet<>();
            for (int i = 0; i < listed; i++) {
                birds.add(book.given(i));
            }
            int least = book.least();
            check("the GIVING of seed " + seed + " has not LEAST BIRDS", birds.size() == least);
            check("MOST of seed " + seed + " is below LEAST", book.most() >= least);
        }
        check("lists take too long", System.nanoTime() - start < 30_000_000_000L);
    }

    /** Arguments from all over, on books in all states: nothing is ever thrown. */
    private static void strangeArguments() throws IllegalAccessException {
        int[] strange = {Integer.MIN_VALUE, -2, -1, 0, 1, 2, 3, 4, 59, 60, 99, 100, 199, 200, 300, 14600, 14601,
            Integer.MAX_VALUE};
        float[] weights = {-0f, 0f, 1f, 4000f, -1f, Float.MAX_VALUE, Float.NEGATIVE_INFINITY, Float.NaN};
        Method[] methods = BirdBook.class.getMethods();
        Arrays.sort(methods, Comparator.comparing(FormTest::signature));
        for (int seed = 0; seed < 200; seed++) {
            Random random = new Random(seed);
            BirdBook book = new BirdBook();
            for (int call = 0; call < 512; call++) {
                Method method = methods[random.nextInt(methods.length)];
                if (method.getDeclaringClass() != BirdBook.class) {
                    continue;
                }
                Class<?>[] types = method.getParameterTypes();
                Object[] values = new Object[types.length];
                for (int i = 0; i < types.length; i++) {
                    values[i] = strange[random.nextInt(strange.length)];
                    if (types[i] == long.class) {
                        values[i] = random.nextLong();
                    } else if (types[i] == float.class) {
                        values[i] = weights[random.nextInt(weights.length)];
                    }
                }
                try {
                    method.invoke(book, values);
                } catch (java.lang.reflect.InvocationTargetException thrown) {
                    check(method + " threw " + thrown.getCause(), false);
                }
            }
        }
    }

    public static void main(String[] args) throws IOException, IllegalAccessException {
        face();
        words();
        roomTaken();
        hardLists();
        strangeArguments();
        System.out.println(wrong == 0 ? "the form is as due" : wrong + " things of the form are not as due");
        if (wrong != 0) {
            System.exit(1);
        }
    }
}
