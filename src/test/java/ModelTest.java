import java.lang.reflect.InvocationTargetException;
import java.lang.reflect.Method;
import java.util.ArrayDeque;
import java.util.Arrays;
import java.util.Map;
import java.util.TreeMap;
import java.util.TreeSet;

/** Runs of up to 512 calls on fresh objects, each answer compared with the one of the model. */
public final class ModelTest {
    private static final int RUNS = 200;
    private static final int CALLS = 512;

    /** What the arguments of a call are: a letter tells the kind of number, and how it is drawn. */
    private static final String[] PLAN = {
        "addShade lppp 3", "getPart hev 2", "shadeDistance hh 1", "addStripe hn 4", "clearStripes - 1",
        "makeSett b 2", "tellSett - 8", "tellLikeSett - 3", "tellScrap - 5", "getThreads s 1", "countStripes s 1",
        "getShade si 2", "getCount si 2", "formShade si 3",
        "formCount si 3", "isAlike ss 3", "lowestAlike s 2", "shadeOf st 2", "getShare sh 2", "meanPart sv 2",
        "joins sww 1", "over sww 2", "scale szz 4", "getLoss - 2", "twillAt stt 2", "distance ss 3",
        "setRuling r 1", "register skoy 8", "withdraw s 1", "isContested s 3", "contestedBy s 3", "consent so 3",
        "mayWeave so 4", "rightOf s 3", "pleatShade sbigai 3", "isPlain sbiga 3", "threadsUsed sbga 2",
        "order smo 8", "warpOf u 2", "left x 2", "cut - 1", "getWaste - 1", "addCopy j 8", "miscopy ciq 24",
        "parentOf c 4", "depth c 4", "fits s 8", "countFits - 4", "checksum - 1", "contestedShare - 1",
        "meanThreads - 1", "isSound - 1"};

    private final Map<String, Method> methods = new TreeMap<>();
    private final Map<String, TreeSet<String>> reached = new TreeMap<>();
    private final ArrayDeque<String> waiting = new ArrayDeque<>();
    private final int[] weights = new int[PLAN.length];
    private long seed = 20261119;
    private int wrong = 0;
    private int sett = 0;

    public static void main(String[] args) throws IllegalAccessException {
        ModelTest test = new ModelTest();
        for (Method method : Settbook.class.getMethods()) {
            test.methods.put(method.getName(), method);
        }
        for (int run = 0; run < RUNS && test.wrong < 20; run++) {
            test.run(run);
        }
        test.requireReach();
        System.out.println(test.wrong == 0 ? RUNS + " runs are as due" : test.wrong + " answers are not as due");
        if (test.wrong != 0) {
            System.exit(1);
        }
    }

    /** Runs that never reach a call's answers, or one of its refusals, would prove nothing of them. */
    private void requireReach() {
        for (Method method : methods.values()) {
            if (method.getDeclaringClass() != Settbook.class) {
                continue;
            }
            TreeSet<String> answers = reached.getOrDefault(method.getName(), new TreeSet<>());
            for (Class<?> refusal : method.getExceptionTypes()) {
                require(answers.contains(refusal.toString()), method.getName() + " never threw " + refusal);
            }
            boolean isOfOneAnswer = method.getName().equals("isSound");
            long values = answers.stream().filter(answer -> !answer.startsWith("class")).count();
            require(values > (isOfOneAnswer ? 0 : 1), method.getName() + " has too few answers");
        }
    }

    private void require(boolean isReached, String what) {
        if (!isReached) {
            wrong++;
            System.out.println(what);
        }
    }

    private void run(int run) throws IllegalAccessException {
        Settbook book = new Settbook();
        Model model = new Model();
        int shades = 2 + draw(11);
        int widest = draw(3) == 0 ? 200 : 6;
        waiting.clear();
        weigh();
        for (int i = 0; i < CALLS; i++) {
            String[] plan = i < shades ? new String[] {"addShade", "lppp"} : next(model, shades, widest);
            int[] numbers = numbers(plan, shades, widest);
            Object got = answer(book, plan[0], numbers);
            Object want = Due.answer(() -> model.call(plan[0], numbers));
            reached.computeIfAbsent(plan[0], name -> new TreeSet<>()).add(want.toString());
            if (!want.equals(got)) {
                wrong++;
                System.out.println("run " + run + ", call " + i + ": " + plan[0] + Arrays.toString(numbers)
                    + " answered " + got + ", due is " + want);
                return;
            }
        }
    }

    /** Each run has calls of its own that come often or not at all, so that it goes deep somewhere. */
    private void weigh() {
        for (int i = 0; i < PLAN.length; i++) {
            int[] factors = {0, 1, 1, 4};
            weights[i] = Integer.parseInt(PLAN[i].split(" ")[2]) * factors[draw(factors.length)];
        }
        weights[0]++;
    }

    /** The arguments of a call: drawn by their kinds, or written out behind it. */
    private int[] numbers(String[] plan, int shades, int widest) {
        if (plan[1].equals("=")) {
            int[] numbers = new int[plan.length - 2];
            for (int i = 0; i < numbers.length; i++) {
                numbers[i] = Integer.parseInt(plan[i + 2]);
            }
            return numbers;
        }
        int[] numbers = new int[plan[1].equals("-") ? 0 : plan[1].length()];
        for (int i = 0; i < numbers.length; i++) {
            numbers[i] = number(plan[1].charAt(i), shades, widest);
        }
        return numbers;
    }

    private String[] next(Model model, int shades, int widest) {
        if (waiting.isEmpty()) {
            String[] plan = pick();
            if (!plan[0].startsWith("tell")) {
                return plan;
            }
            int size = plan[0].equals("tellSett") ? 0 : sizeOfSett(model, draw(5));
            waiting.add("clearStripes -");
            if (size == 0) {
                tellSett(shades, widest);
            } else {
                tellRound(model, size, plan[0].equals("tellScrap"));
            }
        }
        return waiting.poll().split(" ");
    }

    private void tellSett(int shades, int widest) {
        int size = draw(6) == 0 ? 2 + draw(15) : 2 + draw(3);
        int last = -1;
        for (int i = 0; i < size; i++) {
            int shade = draw(Math.min(shades, 2 + draw(4)));
            shade = shade == last ? (shade + 1) % shades : shade;
            last = shade;
            waiting.add("addStripe = " + shade + " " + 2 * (1 + draw(widest / 2)));
        }
        waiting.add("makeSett b");
    }

    private int sizeOfSett(Model model, int number) {
        sett = number;
        Object size = Due.answer(() -> model.call("countStripes", new int[] {sett}));
        return size instanceof Integer ? (Integer) size : 0;
    }

    /** Tells stripes of the round of the drawn sett, from somewhere on, in some direction. */
    private void tellRound(Model model, int size, boolean isScrap) {
        int length = isScrap ? 1 + draw(Math.min(16, size + 3)) : Math.min(size, 16);
        int begin = draw(size);
        int step = draw(2) == 0 ? 1 : -1;
        for (int i = 0; i < length; i++) {
            int[] place = {sett, Math.floorMod(begin + step * i, size)};
            int count = (Integer) model.call("getCount", place);
            boolean isEnd = i == 0 || i == length - 1;
            int torn = isScrap && isEnd ? draw(count) - draw(2) * draw(2) : 0;
            int wrong = draw(20) == 0 ? 2 : 0;
            waiting.add("addStripe = " + model.call("getShade", place) + " " + (count - torn - wrong));
        }
        waiting.add(isScrap ? "fits = " + sett : "makeSett b");
        if (isScrap) {
            waiting.add("countFits -");
        }
    }

    private Object answer(Settbook book, String name, int[] numbers) throws IllegalAccessException {
        Method method = methods.get(name);
        Object[] arguments = new Object[numbers.length];
        for (int i = 0; i < numbers.length; i++) {
            Class<?> type = method.getParameterTypes()[i];
            arguments[i] = type == char.class ? (Object) (char) numbers[i]
                : type == boolean.class ? (Object) (numbers[i] == 1) : (Object) numbers[i];
        }
        try {
            return method.invoke(book, arguments);
        } catch (InvocationTargetException thrown) {
            return Due.kind(thrown.getCause());
        }
    }

    private String[] pick() {
        int at = draw(Arrays.stream(weights).sum());
        for (int i = 0; i < PLAN.length; i++) {
            at -= weights[i];
            if (at < 0) {
                return PLAN[i].split(" ");
            }
        }
        throw new AssertionError();
    }

    private int number(char kind, int shades, int widest) {
        if (draw(60) == 0) {
            int[] odd = {-1, 0, 1, Integer.MIN_VALUE, Integer.MAX_VALUE, 12, 16, 20, 32, 41, 99, 100, 101, 201,
                100000};
            return odd[draw(odd.length)];
        }
        switch (kind) {
            case 'l': return draw(20) == 0 ? 64 + draw(28) : 'A' + draw(14);
            case 'p': return draw(3) == 0 ? draw(32) : draw(3);
            case 'h': return draw(Math.min(shades, draw(2) == 0 ? 2 : 12) + (draw(30) == 0 ? 1 : 0));
            case 'e': return "mawx".charAt(draw(4));
            case 'v': return draw(10) == 0 ? 3 : draw(3);
            case 'n': return draw(8) == 0 ? 1 + draw(widest) : 2 * (1 + draw(widest / 2));
            case 'b': return draw(2);
            case 's': return draw(draw(3) == 0 ? 21 : 5);
            case 'i': return draw(5) == 0 ? draw(32) : draw(4);
            case 't': return draw(3) == 0 ? draw(100000) : draw(50);
            case 'w': return 1 + draw(draw(2) == 0 ? 99 : 12);
            case 'z': return 1 + draw(draw(2) == 0 ? 20 : 4);
            default: return numberMore(kind);
        }
    }

    private int numberMore(char kind) {
        switch (kind) {
            case 'r': return draw(3) == 0 ? draw(10000) : draw(400);
            case 'k': return "ccdfpnx".charAt(draw(7));
            case 'o': return draw(draw(20) == 0 ? 11 : 4);
            case 'y': return draw(20) == 0 ? 1490 + draw(520) : 1700 + draw(6);
            case 'g': return 1 + draw(draw(2) == 0 ? 40 : 6);
            case 'a': return draw(100);
            case 'm': return draw(3) == 0 ? 1 + draw(100) : 1 + draw(30);
            case 'u': return draw(21);
            case 'x': return draw(11);
            case 'c': return draw(17);
            case 'j': return draw(draw(10) == 0 ? 21 : 2);
            case 'q': return draw(20) == 0 ? draw(202) : 2 + draw(3);
            default: throw new AssertionError();
        }
    }

    /** A written-out row of numbers, so that every run of the test is the same. */
    private int draw(int bound) {
        seed = seed * 6364136223846793005L + 1442695040888963407L;
        return (int) ((seed >>> 33) % bound);
    }
}
