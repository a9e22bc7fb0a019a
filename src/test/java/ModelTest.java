import java.lang.reflect.InvocationTargetException;
import java.lang.reflect.Method;
import java.util.ArrayList;
import java.util.Arrays;
import java.util.Comparator;
import java.util.List;
import java.util.Random;

/** Long runs of calls, of which each must be answered as the model of the document answers it. */
public final class ModelTest {
    private static final int CALLS = 512;
    private static final int NONE = -1000000005;
    private static final int[] ODD = {
        -1, 0, 1, 2, 3, 5, 6, 7, 8, 10, 16, 24, 25, 30, 31, 60, 99, 100, 255, 256, 999, 1000, 9999, 10000, 65535, 65536, 1 << 24, NONE,
        Integer.MIN_VALUE, Integer.MAX_VALUE,
    };
    private static final Method[] FACE = face();
    /** What belongs together: each run dwells on one of these rows, so that its edges and limits are met. */
    private static final String[] FOCUS = {
        "table pass pass pass pass way way way way sits seats", "paper told as send take word lacks come due", "rule of counts due why quarrel word run",
        "paper send come decide is reopen falls current bound against law more run", "copy copy comesBack out suspect look knows",
        "send open group reckoned rule run", "register note note carry carry lay lay ask item rest paper", "tell check keep back run count",
        "office hold hold held govern run run",
    };

    private final Random random;
    private final CabinetTable real = new CabinetTable();
    private final Model model = new Model();
    private final List<String> log = new ArrayList<>();
    private final boolean wild;
    private final List<String> names = new ArrayList<>();
    private int calls;
    private boolean failed;

    private ModelTest(long seed) {
        random = new Random(seed);
        wild = seed % 4 == 0;
        for (Method one : FACE) {
            names.add(one.getName());
        }
        String[] focus = FOCUS[(int) (seed % FOCUS.length)].split(" ");
        for (int i = 0; i < FACE.length; i++) {
            names.add(focus[i % focus.length]);
        }
    }

    private static Method[] face() {
        List<Method> all = new ArrayList<>();
        for (Method one : CabinetTable.class.getDeclaredMethods()) {
            if (java.lang.reflect.Modifier.isPublic(one.getModifiers())) {
                all.add(one);
            }
        }
        all.sort(Comparator.comparing(Method::getName));
        return all.toArray(new Method[0]);
    }

    private static Method named(String name) {
        return Arrays.stream(FACE).filter(m -> m.getName().equals(name)).findFirst().orElseThrow();
    }

    /** What an object answers behind its last call is free: it is not asked. */
    private int call(String name, int... args) {
        if (calls >= CALLS) {
            return NONE;
        }
        Object[] boxed = Arrays.stream(args).boxed().toArray();
        int got;
        int want;
        try {
            Method one = named(name);
            got = (Integer) one.invoke(real, boxed);
            want = (Integer) Model.class.getMethod(name, one.getParameterTypes()).invoke(model, boxed);
        } catch (InvocationTargetException e) {
            throw new IllegalStateException(name + Arrays.toString(args) + " threw", e.getCause());
        } catch (ReflectiveOperationException e) {
            throw new IllegalStateException(e);
        }
        calls++;
        log.add(name + Arrays.toString(args) + " = " + got);
        if (got != want) {
            log.add("  due is " + want);
            failed = true;
        }
        return got;
    }

    private int below(int end) {
        return random.nextInt(Math.max(1, end));
    }

    private boolean oneIn(int n) {
        return random.nextInt(n) == 0;
    }

    /** Mostly one that is there, now and then the next one or an odd one. */
    private int one(int what) {
        int many = model.count(what);
        if (oneIn(wild ? 8 : 40)) {
            return ODD[below(ODD.length)];
        }
        return below(many + (oneIn(20) ? 1 : 0));
    }

    private int upTo(int end) {
        return oneIn(wild ? 8 : 40) ? ODD[below(ODD.length)] : below(end);
    }

    private int set(int bits) {
        return oneIn(wild ? 8 : 40) ? ODD[below(ODD.length)] : below(1 << bits) & below(1 << bits);
    }

    private int orNone(int v) {
        return oneIn(3) ? NONE : v;
    }

    private String number() {
        if (oneIn(25)) {
            return String.valueOf(below(2000000));
        }
        return (oneIn(10) ? "0" : "") + below(oneIn(3) ? 100 : 6);
    }

    private String blank() {
        return oneIn(30) ? "" : oneIn(15) ? "  " : " ";
    }

    private String atom() {
        String sign = oneIn(2) ? "<" : ">";
        String gap = oneIn(2) ? "" : " ";
        switch (below(6)) {
            case 0: return "sum" + gap + sign + gap + below(10000);
            case 1: return "day" + gap + sign + gap + below(60);
            case 2: return "gov" + gap + sign + gap + below(4);
            case 3: return "by" + blank() + below(3);
            case 4: return "thing" + blank() + below(4);
            default: return "agreed" + blank() + below(3);
        }
    }

    private String expression(int depth) {
        switch (depth <= 0 ? 0 : below(7)) {
            case 1: return expression(depth - 1) + blank() + "or" + blank() + expression(depth - 1);
            case 2: return expression(depth - 1) + blank() + "and" + blank() + expression(depth - 1);
            case 3: return "not" + blank() + expression(depth - 1);
            case 4: return "(" + expression(depth - 1) + ")";
            case 5: return "( " + expression(depth - 1) + " )";
            default: return atom();
        }
    }

    private String deep() {
        StringBuilder text = new StringBuilder();
        int brackets = 0;
        for (int i = below(20); i > 0; i--) {
            if (oneIn(2)) {
                text.append('(');
                brackets++;
            } else {
                text.append("not ");
            }
        }
        text.append("by 0");
        for (int i = oneIn(4) ? below(brackets + 2) : brackets; i > 0; i--) {
            text.append(')');
        }
        return text.toString();
    }

    private String ruleText() {
        String[] heads = {"table", "ahead", "need", "silent", "shut", "strike", "silent 2", "shut 0", "table 0", "ahead 0", "need 0"};
        String head = heads[below(heads.length)];
        StringBuilder text = new StringBuilder(oneIn(20) ? " " : "").append(head);
        if (head.equals("strike")) {
            text.append(blank()).append(below(Math.max(1, model.count(5))));
        } else {
            if (head.indexOf(' ') < 0) {
                text.append(blank()).append(oneIn(20) ? number() : String.valueOf(below(5)));
            }
            text.append(blank()).append(oneIn(10) ? number() : String.valueOf(below(3)));
        }
        if (oneIn(2)) {
            text.append(blank()).append("if").append(blank()).append(oneIn(8) ? deep() : expression(3));
        }
        if (oneIn(3)) {
            text.append(blank()).append("unless").append(blank()).append(expression(2));
        }
        if (oneIn(4) && text.length() > 0) {
            spoil(text);
        }
        text.setLength(Math.min(96, text.length()));
        return text.toString();
    }

    private void spoil(StringBuilder text) {
        int at = below(text.length());
        switch (below(4)) {
            case 0:
                text.setCharAt(at, "abz019 ()<>=A\u00ff\u0000\t".charAt(below(16)));
                break;
            case 1:
                text.deleteCharAt(at);
                break;
            case 2:
                text.insert(at, " ()5x".charAt(below(5)));
                break;
            default:
                text.setLength(at);
        }
    }

    private void makeRule() {
        String text = ruleText();
        if (model.count(13) > 0) {
            call("trim", 0);
        }
        byte[] bytes = new byte[96];
        Arrays.fill(bytes, (byte) (oneIn(2) ? 32 : 'x'));
        for (int i = 0; i < text.length(); i++) {
            bytes[i] = (byte) text.charAt(i);
        }
        for (int i = 0; i < text.length(); i += 12) {
            call("feed", four(bytes, i), four(bytes, i + 4), four(bytes, i + 8));
        }
        call("trim", text.length());
        log.add("  \"" + text + "\"");
        int rule = call("rule", oneIn(10) ? upTo(1100) : below(model.count(14) + 5));
        if (rule >= 0 && model.count(2) > 0) {
            call("counts", rule, below(model.count(2)));
        }
    }

    private static int four(byte[] bytes, int at) {
        return bytes[at] << 24 | (bytes[at + 1] & 255) << 16 | (bytes[at + 2] & 255) << 8 | bytes[at + 3] & 255;
    }

    private void tellAndCheck() {
        int n = 1 + below(oneIn(3) ? 28 : 5);
        int[] row = model.daysTold(n);
        int many = oneIn(6) ? below(row.length + 1) : row.length;
        for (int i = 0; i < many; i++) {
            call("tell", oneIn(60) ? row[i] + 1 : row[i]);
        }
        if (oneIn(6)) {
            call("tell", below(3));
        }
        call("check", oneIn(10) ? upTo(30) : n);
    }

    /** A paper that goes all its way, so that decisions are not rare. */
    private void fullCourse() {
        int paper = call("paper", below(5), one(0), below(3), upTo(10000), upTo(100));
        if (paper < 0) {
            return;
        }
        call("send", paper);
        if (oneIn(3)) {
            call("run", 1 + below(9));
        }
        if (call("come", paper, one(1), orNone(one(0))) >= 0) {
            call("decide", paper, below(4), below(1 << Math.min(24, model.count(6))) & below(1 << 24) & below(1 << 24));
        }
    }

    private void begin() {
        for (int i = 1 + below(4); i > 0; i--) {
            call("office");
        }
        for (int i = 1 + below(4); i > 0; i--) {
            call("table", 1 + below(15), 1 + below(4), below(3));
        }
        for (int i = below(6); i > 0; i--) {
            call("paper", below(5), one(0), below(3), below(10000), below(100));
        }
    }

    private void step() {
        if (oneIn(30)) {
            makeRule();
        } else if (oneIn(25)) {
            fullCourse();
        } else if (wild && oneIn(4)) {
            anyCall();
        } else {
            likelyCall();
        }
    }

    private void anyCall() {
        Method one = FACE[below(FACE.length)];
        int[] args = new int[one.getParameterCount()];
        for (int i = 0; i < args.length; i++) {
            args[i] = oneIn(2) ? ODD[below(ODD.length)] : below(12);
        }
        call(one.getName(), args);
    }

    private void likelyCall() {
        String name = names.get(below(names.size()));
        if (!callAboutPapers(name) && !callAboutDecisions(name)) {
            callAboutTheRest(name);
        }
    }

    private boolean callAboutPapers(String name) {
        switch (name) {
            case "office": if (oneIn(4)) call(name); break;
            case "hold": call(name, one(0), orNone(upTo(100))); break;
            case "held": call(name, one(0), upTo(model.count(14) + 3)); break;
            case "govern": if (oneIn(3)) call(name); break;
            case "table": if (oneIn(4)) call(name, set(8), 1 + upTo(30), upTo(30)); break;
            case "seats": if (oneIn(2)) call(name, one(1), set(8)); break;
            case "sits": call(name, one(1), upTo(10000)); break;
            case "pass": call(name, one(1), one(1), oneIn(4) ? upTo(2) : 1); break;
            case "way": call(name, oneIn(20) ? upTo(100) : 10 * one(1) + one(1), upTo(1000), upTo(31), upTo(9)); break;
            case "paper": call(name, upTo(5), one(0), upTo(4), upTo(10000), upTo(100)); break;
            case "told": call(name, one(2), upTo(16)); break;
            case "as": call(name, one(2), upTo(5)); break;
            case "send": call(name, one(2)); break;
            case "take": if (oneIn(3)) call(name, one(2)); break;
            case "word": call(name, one(2), one(0), upTo(2)); break;
            case "feed": call(name, random.nextInt(), random.nextInt(), random.nextInt()); break;
            case "trim": call(name, oneIn(2) ? 0 : upTo(97)); break;
            case "rule": makeRule(); break;
            case "of": call(name, one(5), upTo(5)); break;
            case "counts": call(name, one(5), one(2)); break;
            case "due": case "why": call(name, one(2), upTo(5)); break;
            case "quarrel": call(name, one(5), one(5)); break;
            default: return false;
        }
        return true;
    }

    private boolean callAboutDecisions(String name) {
        switch (name) {
            case "lacks": call(name, one(2), one(1)); break;
            case "come": call(name, one(2), one(1), orNone(one(0))); break;
            case "decide": call(name, one(2), upTo(4), set(Math.min(24, model.count(6)))); break;
            case "is": call(name, one(6), upTo(9)); break;
            case "reopen": if (oneIn(3)) call(name, one(6)); break;
            case "falls": call(name, one(6)); break;
            case "current": call(name, upTo(4), upTo(model.count(14) + 3)); break;
            case "bound": call(name, one(0), upTo(4)); break;
            case "against": call(name, upTo(3)); break;
            case "law": call(name, upTo(4), orNone(upTo(100))); break;
            case "more": call(name, upTo(4)); break;
            case "run": call(name, oneIn(5) ? upTo(61) : 1 + below(4)); break;
            case "beside": call(name, upTo(oneIn(2) ? 10 : 100)); break;
            default: return false;
        }
        return true;
    }

    private void callAboutTheRest(String name) {
        switch (name) {
            case "copy": call(name, oneIn(2) ? 0 : one(2), one(0), marks()); break;
            case "comesBack": call(name, one(8)); break;
            case "out": call(name, one(0)); break;
            case "suspect": case "look": call(name, oneIn(2) ? 0 : one(2), oneIn(30) ? 255 : set(8), marks()); break;
            case "knows": call(name, one(0), upTo(model.count(14) + 3)); break;
            case "group": call(name, oneIn(3) ? set(24) : 1 + below(63)); break;
            case "register": call(name, upTo(4), oneIn(6) ? -1 : upTo(2), oneIn(10) ? below(28) - 2 : upTo(9)); break;
            case "note": call(name, upTo(4), upTo(10), random.nextInt() >> below(32)); break;
            case "carry": call(name, upTo(4), upTo(6), upTo(4), upTo(6), oneIn(20) ? -1 : upTo(6)); break;
            case "lay": call(name, upTo(6), upTo(4), oneIn(4) ? random.nextInt() : upTo(4)); break;
            case "ask": call(name, upTo(6), upTo(5)); break;
            case "item": call(name, upTo(6), upTo(12)); break;
            case "rest": call(name, upTo(6), oneIn(9) ? 0 : random.nextInt() >> below(32)); break;
            case "tell": if (oneIn(3)) tellAndCheck(); else call(name, below(3)); break;
            case "check": if (oneIn(3)) tellAndCheck(); else call(name, upTo(30)); break;
            case "back": if (oneIn(2)) call(name); break;
            case "count": call(name, upTo(16)); break;
            default: call(name); break;
        }
    }

    /** Few unlike marks, so that copies are often alike. */
    private int marks() {
        return oneIn(4) ? set(16) : below(4) | below(4) << 4 | below(2) << 14;
    }

    /** What can be asked without changing anything, by chance, as long as the object is to answer. */
    private void askAround() {
        while (calls < CALLS && !failed) {
            switch (below(9)) {
                case 0: call("count", below(16)); break;
                case 1: call("told", one(2), below(16)); break;
                case 2: call("due", one(2), below(5)); break;
                case 3: call("why", one(2), below(5)); break;
                case 4: call("is", one(6), below(9)); break;
                case 5: call("of", one(5), below(5)); break;
                case 6: call("open"); break;
                case 7: call("reckoned"); break;
                default: call("against", below(3)); break;
            }
        }
    }

    private boolean goes() {
        if (!oneIn(10)) {
            begin();
        }
        int changing = CALLS - 60;
        while (calls < changing && !failed) {
            step();
        }
        askAround();
        return !failed;
    }

    public static void main(String[] args) {
        int runs = args.length > 0 ? Integer.parseInt(args[0]) : 3000;
        int first = args.length > 1 ? Integer.parseInt(args[1]) : 0;
        int wrong = 0;
        for (int seed = first; seed < first + runs && wrong < 3; seed++) {
            ModelTest one = new ModelTest(seed);
            if (!one.goes()) {
                wrong++;
                System.out.println("run " + seed + " differs from the model:");
                one.log.forEach(line -> System.out.println("  " + line));
            }
        }
        System.out.println(runs + " runs, " + wrong + " not as due");
        if (wrong != 0) {
            System.exit(1);
        }
    }
}
