import java.io.IOException;
import java.lang.reflect.InvocationTargetException;
import java.lang.reflect.Method;
import java.nio.file.Files;
import java.nio.file.Path;
import java.util.Arrays;
import java.util.Comparator;
import java.util.Map;
import java.util.Set;
import java.util.TreeMap;
import java.util.TreeSet;
import java.util.regex.Matcher;
import java.util.regex.Pattern;

/**
 * For each sentence of the document that names a boundary case, a test of its own on both sides of the bound. That
 * each sentence is quoted as it stands, and that no refusal of a promise is left out, is held against the document.
 */
public final class BoundsTest {
    private static final Path DOC = Path.of("../shared/DOC.md");
    private static final Class<?>[] PARTS = {
        BoundsOfOffices.class, BoundsOfPapers.class, BoundsOfRules.class, BoundsOfDecisions.class, BoundsOfCopies.class, BoundsOfRoom.class, BoundsOfImages.class,
    };
    private static final Map<String, Integer> REFUSALS = Map.of("BAD", Asking.BAD, "NO", Asking.NO, "FULL", Asking.FULL, "NONE", Asking.NONE,
        "NOTHING", Asking.NOTHING, "KIND", Asking.KIND, "INDEX", Asking.INDEX, "SIZE", Asking.SIZE);

    /** The answers that were due in the tests of each place of the document. */
    private static final Map<String, Set<Integer>> WANTED = new TreeMap<>();
    private static int sentences;

    public static void main(String[] args) throws IOException, ReflectiveOperationException {
        String doc = Files.readString(DOC).replaceAll("\\s+", " ");
        theViewSees();
        for (Class<?> part : PARTS) {
            Method[] tests = part.getDeclaredMethods();
            Arrays.sort(tests, Comparator.comparing(Method::getName));
            for (Method test : tests) {
                if (test.isAnnotationPresent(Sentence.class)) {
                    hold(doc, test, test.getAnnotation(Sentence.class).value());
                }
            }
        }
        for (int promise = 1; promise <= 58; promise++) {
            allRefusalsAsked("Promise " + promise, section(doc, "Promise " + promise));
        }
        System.out.println(sentences + " sentences, " + Asking.asked + " answers asked, " + Asking.wrong + " not as due");
        if (Asking.wrong != 0) {
            System.exit(1);
        }
    }

    private static void hold(String doc, Method test, String quoted) throws ReflectiveOperationException {
        sentences++;
        int colon = quoted.indexOf(": ");
        String where = quoted.substring(0, colon);
        if (!section(doc, where).contains(quoted.substring(colon + 2))) {
            Asking.fault(test.getName() + ": the document does not say: " + quoted);
        }
        Asking.WANTED.clear();
        int asked = Asking.asked;
        int wrong = Asking.wrong;
        try {
            test.invoke(null);
        } catch (InvocationTargetException e) {
            Asking.fault(test.getName() + " threw " + e.getCause());
        }
        if (Asking.wrong > wrong || Asking.asked == asked) {
            System.out.println("  that is of: " + quoted + " (" + test.getName() + ")");
        }
        if (Asking.asked == asked) {
            Asking.fault(test.getName() + " asked nothing");
        }
        WANTED.computeIfAbsent(where, any -> new TreeSet<>()).addAll(Asking.WANTED);
    }

    /** The words of a place: a promise, a part of the terms (0: what stands ahead of the first), or what it is. */
    private static String section(String doc, String where) {
        String start = "## " + where + (where.startsWith("Promise") ? ": " : " ");
        String end = "## ";
        if (where.startsWith("Terms")) {
            int part = Integer.parseInt(where.substring(6));
            start = part == 0 ? "## Terms " : "======== " + part + " ";
            end = part == 6 ? "Ahead of the calls" : "======== ";
        }
        int from = doc.indexOf(start);
        if (from < 0) {
            return "";
        }
        int to = doc.indexOf(end, from + start.length());
        return doc.substring(from, to < 0 ? doc.length() : to);
    }

    /**
     * FULL of decide is left out: there are as many papers as decisions, and NO stands ahead of it; KIND of told is
     * what it tells, no refusal.
     */
    private static void allRefusalsAsked(String where, String text) {
        Set<Integer> wanted = WANTED.getOrDefault(where, Set.of());
        if (wanted.isEmpty()) {
            Asking.fault("no sentence of " + where + " is tested");
        }
        Matcher word = Pattern.compile("\\b(BAD|NO|FULL|NONE|NOTHING|KIND|INDEX|SIZE)\\b").matcher(text);
        while (word.find()) {
            boolean left = Set.of("Promise 27 FULL", "Promise 12 KIND").contains(where + " " + word.group());
            if (!left && !wanted.contains(REFUSALS.get(word.group()))) {
                Asking.fault(where + ": " + word.group() + " is never due");
            }
        }
    }

    /** Each of these changes something: if the view did not show it, it would not show that a refused call did. */
    private static void theViewSees() {
        Asking.Call[] changes = {
            x -> x.office(), x -> x.hold(2, 5), x -> x.hold(0, 9), x -> x.govern(), x -> x.table(0, 1, 0), x -> x.seats(1, 6), x -> x.pass(2, 0, 1),
            x -> x.pass(0, 1, 0), x -> x.paper(0, 0, 0, 0, 0), x -> x.send(2), x -> x.take(0), x -> x.word(0, 0, 0), x -> x.word(0, 2, 1),
            x -> x.feed(0, 0, 0), x -> x.trim(7), x -> x.rule(0), x -> x.come(5, 0, 0), x -> x.reopen(0), x -> x.law(9, 0), x -> x.law(3, NOBODY),
            x -> x.run(1), x -> x.copy(0, 0, 0), x -> x.comesBack(0), x -> x.group(1), x -> x.register(0, -1, 0), x -> x.register(3, 0, 0),
            x -> x.note(0, 1, 78), x -> x.carry(0, 0, 0, 1, 2), x -> x.lay(5, 3, 0), x -> x.lay(2, 3, -18), x -> x.lay(0, 0, 0), x -> x.tell(0),
            x -> x.check(1), x -> x.keep(), x -> x.back(),
        };
        int[][] before = View.pages(Situations::busy);
        for (int i = 0; i < changes.length; i++) {
            if (!Asking.differ(before, View.pages(Situations::busy, changes[i]))) {
                Asking.fault("the view does not see change " + i);
            }
        }
    }

    private static final int NOBODY = Asking.NONE;
}
