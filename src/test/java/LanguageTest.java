import java.io.IOException;
import java.lang.management.ManagementFactory;
import java.lang.reflect.Constructor;
import java.lang.reflect.Field;
import java.lang.reflect.Method;
import java.lang.reflect.Modifier;
import java.nio.file.Files;
import java.nio.file.Path;
import java.util.Arrays;
import java.util.Random;
import java.util.Set;
import java.util.TreeSet;
import java.util.regex.Pattern;

/** What LANGUAGE.md asks: the face, the words that are left out, no throw in any state, a small room. */
public final class LanguageTest {
    private static final String SOURCE = "src/main/java/StepPile.java";
    private static final String[] FACE = {
        "again(int)", "apart(int,int)", "at(int,int)", "begin(int)", "check()", "clear()", "close()", "count(int)",
        "is(int,int)", "length(int)", "need(int)", "pair(int,int)", "put(int)", "save()", "step(int)", "symbol(int)",
        "told(int,int)"
    };
    private static final String[] LEFT_OUT = {
        "\\bthrow\\b", "\\bthrows\\b", "\\btry\\b", "\\bcatch\\b", "\\bsynchronized\\b", "\\bassert\\b", "->", "::",
        "\\bextends\\b", "\\bpackage\\b", "\\bSystem\\.(?!arraycopy)", "\\bRandom\\b", "Exact\\b", "\\bnull\\b"
    };
    private static final int NOTHING = 0;
    private static final Due d = new Due();

    private LanguageTest() {
    }

    public static void main(String[] args) throws IOException {
        face();
        classesInside();
        words();
        limitsBeyondARun();
        wildCalls();
        room();
        d.end();
    }

    private static void face() {
        d.at("rule 1");
        Class<StepPile> c = StepPile.class;
        d.isTrue("the class is public and final",
                Modifier.isPublic(c.getModifiers()) && Modifier.isFinal(c.getModifiers()));
        Set<String> found = new TreeSet<>();
        for (Method m : c.getDeclaredMethods()) {
            if (!Modifier.isPrivate(m.getModifiers())) {
                d.isTrue(m + " answers int", m.getReturnType() == int.class && !Modifier.isStatic(m.getModifiers()));
                String takes = Arrays.toString(m.getParameterTypes()).replaceAll("[\\[\\] ]", "");
                found.add(m.getName() + "(" + takes + ")");
            }
        }
        d.isTrue("the face is the document's: " + found, found.equals(new TreeSet<>(Arrays.asList(FACE))));
        for (Field f : c.getDeclaredFields()) {
            boolean isNone = f.getName().equals("NONE") && Modifier.isPublic(f.getModifiers());
            d.isTrue(f + " is NONE or private", isNone || Modifier.isPrivate(f.getModifiers()));
        }
        Constructor<?>[] makers = c.getDeclaredConstructors();
        d.due("constructors", makers.length, 1);
        d.isTrue("it is public and takes nothing",
                Modifier.isPublic(makers[0].getModifiers()) && makers[0].getParameterCount() == 0);
    }

    private static void classesInside() {
        d.at("rules 1, 2, 5, 11");
        d.isTrue("twelve classes at most", StepPile.class.getDeclaredClasses().length < 12);
        holdsRules(StepPile.class);
        for (Class<?> c : StepPile.class.getDeclaredClasses()) {
            d.isTrue(c + " is static", Modifier.isStatic(c.getModifiers()));
            holdsRules(c);
            for (Method m : c.getDeclaredMethods()) {
                boolean named = Arrays.stream(FACE).anyMatch(f -> f.startsWith(m.getName() + "("));
                d.isTrue(m + " has a name of its own", !named);
            }
        }
    }

    private static void holdsRules(Class<?> c) {
        int fields = 0;
        for (Field f : c.getDeclaredFields()) {
            boolean isStatic = Modifier.isStatic(f.getModifiers());
            d.isTrue(f + " is final if it is static", !isStatic || Modifier.isFinal(f.getModifiers()));
            fields += isStatic ? 0 : 1;
        }
        d.isTrue(c + " has twenty fields at most", fields <= 20);
        for (Method m : c.getDeclaredMethods()) {
            d.isTrue(m + " takes seven at most", m.getParameterCount() <= 7);
        }
    }

    private static void words() throws IOException {
        d.at("rules 4, 6, 13");
        String text = Files.readString(Path.of(SOURCE));
        String code = text.replaceAll("(?s)/\\*.*?\\*/", "").replaceAll("//[^\\n]*", "");
        for (String word : LEFT_OUT) {
            d.isTrue("the class does without " + word, !Pattern.compile(word).matcher(code).find());
        }
        String imports = code.replaceAll("(?m)^(?!import ).*\\n?", "").trim();
        d.isTrue("it imports Arrays alone: " + imports, imports.equals("import java.util.Arrays;"));
    }

    /** These limits lie beyond 512 calls, where answers are free; but the class has room for no more than these. */
    private static void limitsBeyondARun() {
        d.at("limits beyond a run");
        StepPile x = new StepPile();
        for (int n = 0; n < 1000; n++) {
            d.due("symbol", x.symbol(n == 0 ? 1 : 0), n);
        }
        d.due("symbol beyond 1000", x.symbol(0), -1);
        d.due("apart of one beyond the last", x.apart(1000, 999), 0);
        d.due("apart of the last two", x.apart(999, 998), 1);
        d.due("apart of the first and the last", x.apart(999, 1), 1);
        for (int n = 0; n < 300; n++) {
            d.due("begin", x.begin(1), n);
            x.put(0);
            for (int k = 1; k < 300; k++) {
                x.put(k);
            }
            d.due("close", x.close(), 1);
        }
        d.due("begin beyond 300", x.begin(1), -1);
        d.due("told(299, 0)", x.told(299, 0), 300);
        for (int n = 0; n < 133; n++) {
            d.due("step", x.step(n), 0);
        }
        d.due("step beyond 40000", x.step(0), 5);
    }

    private static int wild(Random random) {
        switch (random.nextInt(12)) {
            case 0:
                return random.nextInt();
            case 1:
                return random.nextInt(1003) - 2;
            case 2:
                return random.nextBoolean() ? Integer.MAX_VALUE : Integer.MIN_VALUE;
            default:
                return random.nextInt(random.nextBoolean() ? 4 : 60) - 1;
        }
    }

    private static int wildCall(StepPile x, Random random) {
        int a = wild(random);
        int b = wild(random);
        switch (random.nextInt(26)) {
            case 0:
                return x.symbol(a);
            case 1:
                return x.begin(a);
            case 2:
            case 3:
            case 4:
            case 5:
                return x.put(a);
            case 6:
            case 7:
            case 8:
                return x.need(a);
            case 9:
                return x.pair(a, b);
            case 10:
            case 11:
                return x.close();
            case 12:
                return x.apart(a, b);
            case 13:
            case 14:
            case 15:
            case 16:
                return x.step(a);
            case 17:
                return x.save();
            case 18:
                return x.again(a);
            case 19:
                return random.nextInt(50) == 0 ? x.clear() : NOTHING;
            case 20:
                return x.count(a);
            case 21:
                return x.length(a);
            case 22:
                return x.at(a, b);
            case 23:
                return x.told(a, b);
            case 24:
                return x.is(a, b);
            default:
                return x.check() == 1 ? NOTHING : -2;
        }
    }

    /** Far beyond 512 calls: there too nothing may throw. */
    private static void wildCalls() {
        d.at("rule 7");
        for (int seed = 0; seed < 20; seed++) {
            Random random = new Random(seed);
            StepPile x = new StepPile();
            int least = 0;
            for (int call = 0; call < 50000; call++) {
                least = Math.min(least, wildCall(x, random));
            }
            d.due("the least answer of wild calls", least, -1);
        }
    }

    private static long allocated() {
        com.sun.management.ThreadMXBean bean =
                (com.sun.management.ThreadMXBean) ManagementFactory.getThreadMXBean();
        return bean.getThreadAllocatedBytes(Thread.currentThread().getId());
    }

    /** The pile and the saved rows both as full as they can be, one after the other, in one run. */
    private static void dearRun() {
        StepPile x = new StepPile();
        int c = Telling.constant(x);
        int v = Telling.variable(x);
        int f = Telling.floating(x, c, v);
        int twice = Telling.assertion(x, Telling.needs(f), c, v, v);
        for (int round = 0; round < 4; round++) {
            x.clear();
            Telling.steps(x, f, twice, twice, twice, twice, twice, twice, twice, twice, twice);
            x.save();
            for (int n = 0; n < 100; n++) {
                int answer = round % 2 == 0 ? x.save() : x.again(0);
                d.isTrue("an answer", answer >= StepPile.NONE);
            }
        }
    }

    /** The room of a run has some 7.3 million fields and elements; eight bytes is the most that one takes. */
    private static void room() {
        d.at("room");
        new StepPile();
        long start = allocated();
        new StepPile();
        long made = allocated();
        d.isTrue("a new object takes 20000 elements at most: " + (made - start) + " bytes", made - start < 160000);
        long before = allocated();
        dearRun();
        long after = allocated();
        d.isTrue("a dear run takes 300000 elements at most: " + (after - before) + " bytes", after - before < 2400000);
        System.out.println("a new object: " + (made - start) + " bytes; a dear run: " + (after - before) + " bytes");
    }
}
