import java.lang.reflect.Method;
import java.lang.reflect.Modifier;
import java.util.ArrayList;
import java.util.List;
import java.util.Map;
import java.util.Random;
import java.util.TreeMap;

/** Random runs of at most 512 calls on the class and on the model, which must answer alike. */
public final class ModelTest {
    private static final int CALLS = 512;
    private static final int RUNS = 1500;

    /** What each argument of a method is, a letter an argument (see argument). */
    private static final Map<String, String> FACE = new TreeMap<>();
    /** The methods that change a ledger come more often than those that ask. */
    private static final List<String> CHANGES = List.of("advance", "transfer", "transferBlock",
            "reverse", "reserve", "commit", "release", "extend", "swap", "corrupt", "setPick",
            "transfer", "transfer", "transferBlock", "transferBlock", "reserve", "reserve",
            "reserve", "commit", "reverse", "reverse", "advance", "advance");
    private static final List<String> RARE_CHANGES =
            List.of("reconcile", "checkpoint", "saveSnapshot", "restoreSnapshot");

    static {
        String all = "textError poolNamed blockCount poolCount nameByte:PI now advance:T setPick:Y "
                + "transfer:PPCR transferBlock:BPR reverse:E reserve:PPCT commit:VR release:V "
                + "extend:VT balance:P booked:P available:P room:P largestTransfer:PP poolOf:B "
                + "since:B blockAt:PI wouldPick:PCI runCount:P longestRun:P fragmentation:P swap:BB "
                + "bestSwap:P entryCount entryValue:EW entryBlock:EI bookedAt:PM peak:PML "
                + "flow:PPML reasonTotal:RML busiest:ML reservationCount reservationValue:VX "
                + "reservedFrom:P nextExpiry whenAvailable:PC rent:P totalRent rentAhead:PT "
                + "corrupt:BP mismatches reconcile checkpoint auditSet:KK auditOf:KKP "
                + "saveSnapshot:S restoreSnapshot:S";
        for (String one : all.split(" ")) {
            String[] parts = one.split(":");
            FACE.put(parts[0], parts.length == 1 ? "" : parts[1]);
        }
    }

    private final Random random;
    private final StorageLedger ledger = new StorageLedger();
    private final Model model = new Model();
    private final List<String> history = new ArrayList<>();
    private int calls = 0;
    private boolean good = true;

    private ModelTest(long seed) {
        random = new Random(seed);
    }

    public static void main(String[] args) {
        // Another seed can be given, to search further than the tests do.
        long start = args.length > 0 ? Long.parseLong(args[0]) : 0;
        int runs = args.length > 1 ? Integer.parseInt(args[1]) : RUNS;
        everyMethodIsCalled();
        Map<String, Integer> answers = new TreeMap<>();
        for (int run = 0; run < runs; run++) {
            ModelTest test = new ModelTest(start * 1000003L + run);
            test.run(run % 3);
            for (String line : test.history) {
                String name = line.replaceAll("\\(.*", "");
                String answer = line.replaceAll(".* = ", "");
                boolean plain = !answer.startsWith("-") && !answer.startsWith("throws");
                answers.merge(name + (plain ? "" : " " + answer.replaceAll("-[0-9]{3,}", "-n")), 1,
                        Integer::sum);
            }
        }
        if (args.length > 2) {
            answers.forEach((name, count) -> System.out.println(count + " " + name));
        }
        Check.end("ModelTest");
    }

    private static void everyMethodIsCalled() {
        for (Method method : StorageLedger.class.getDeclaredMethods()) {
            if (Modifier.isPublic(method.getModifiers())) {
                boolean typed = List.of("appendByte", "load", "batch").contains(method.getName());
                Check.same(method.getName() + " is called",
                        typed || FACE.containsKey(method.getName()), true);
            }
        }
    }

    /** Kinds of runs: 0 all methods alike, 1 mostly changes, 2 mostly texts. */
    private void run(int kind) {
        for (int tries = 0; tries < 3 && model.poolCount() < 3; tries++) {
            type(description(), "load");
        }
        while (calls < CALLS && good) {
            int dice = random.nextInt(100);
            if (dice < (kind == 2 ? 40 : 1)) {
                if (random.nextInt(kind == 2 ? 3 : 6) == 0) {
                    type(description(), "load");
                } else {
                    type(batchText(), "batch");
                }
            } else if (dice < 3) {
                type(pick("free", "a", "b", "cd", "zzzzzz", "ab", " a"), "poolNamed");
            } else if (kind == 1 && dice < 90 || dice < 50) {
                List<String> names = random.nextInt(12) == 0 ? RARE_CHANGES : CHANGES;
                call(names.get(random.nextInt(names.size())));
            } else {
                List<String> names = List.copyOf(FACE.keySet());
                call(names.get(random.nextInt(names.size())));
            }
        }
    }

    // ---- calls ----

    private void type(String text, String reader) {
        if (calls + text.length() + 1 > CALLS) {
            calls = CALLS;
            return;
        }
        for (int i = 0; i < text.length(); i++) {
            compare("appendByte", (int) text.charAt(i));
        }
        compare(reader);
        compare("textError");
    }

    private void call(String name) {
        String kinds = FACE.get(name);
        Object[] arguments = new Object[kinds.length()];
        for (int i = 0; i < arguments.length; i++) {
            arguments[i] = argument(kinds.charAt(i), before(kinds, arguments, i));
        }
        compare(name, arguments);
    }

    /** The argument before, for those that should differ from it or be greater. */
    private static int before(String kinds, Object[] arguments, int i) {
        boolean matters = i > 0
                && (kinds.charAt(i) == kinds.charAt(i - 1) || kinds.charAt(i) == 'L');
        return matters ? (int) arguments[i - 1] : kinds.charAt(i) == 'K' ? 0 : -1;
    }

    private void compare(String name, Object... arguments) {
        if (!good || calls >= CALLS) {
            return;
        }
        calls++;
        Object got = answer(ledger, name, arguments);
        Object due = answer(model, name, arguments);
        history.add(name + java.util.Arrays.toString(arguments).replace('[', '(').replace(']', ')')
                + " = " + got);
        good = got.equals(due);
        Check.same(good ? name : String.join("\n", history) + "\n" + name, got, due);
    }

    private static Object answer(Object on, String name, Object... arguments) {
        Class<?>[] types = new Class<?>[arguments.length];
        java.util.Arrays.fill(types, int.class);
        try {
            Method method = on.getClass().getDeclaredMethod(name, types);
            method.setAccessible(true);
            return Check.invoked(method, on, arguments);
        } catch (ReflectiveOperationException e) {
            throw new IllegalStateException(e);
        }
    }

    // ---- arguments ----

    private int argument(char kind, int before) {
        if (random.nextInt(60) == 0) {
            return List.of(-1, 0, 1, 10, 200, 201, 1000, 1001, 300, Integer.MAX_VALUE,
                    Integer.MIN_VALUE).get(random.nextInt(11));
        }
        switch (kind) {
            case 'P':
                int pool = random.nextInt(model.poolCount());
                boolean again = pool == before && random.nextInt(8) > 0;
                return again ? (pool + 1) % model.poolCount() : pool;
            case 'B':
                return random.nextInt(model.blockCount());
            case 'C':
                return random.nextInt(8) == 0 ? 1 + random.nextInt(200) : 1 + random.nextInt(4);
            case 'T':
                return random.nextInt(8) == 0 ? 1 + random.nextInt(1000) : 1 + random.nextInt(5);
            case 'R':
                return random.nextInt(4);
            case 'E':
                return recent(model.entryCount());
            case 'V':
                return recent(model.reservationCount());
            case 'K':
                return before + random.nextInt(3);
            default:
                return plainArgument(kind, before);
        }
    }

    private int plainArgument(char kind, int before) {
        switch (kind) {
            case 'I':
                return random.nextInt(8) - 1;
            case 'M':
                return random.nextInt(model.now() + 2);
            case 'L':
                return before + random.nextInt(10);
            case 'W':
                return random.nextInt(7);
            case 'X':
                return random.nextInt(5);
            case 'Y':
                return random.nextInt(4);
            case 'S':
                return random.nextInt(2);
            default:
                throw new IllegalStateException("no such kind " + kind);
        }
    }

    private int recent(int count) {
        int back = random.nextInt(3) == 0 ? random.nextInt(count + 1) : random.nextInt(4);
        return random.nextInt(10) == 0 ? count - 1 - back : Math.max(0, count - 1 - back);
    }

    // ---- texts ----

    private String pick(String... texts) {
        return texts[random.nextInt(texts.length)];
    }

    private String spaces() {
        return random.nextInt(12) == 0 ? "  " : "";
    }

    private String small() {
        return "" + random.nextInt(random.nextInt(10) == 0 ? 250 : 10);
    }

    private String name() {
        if (random.nextInt(25) == 0) {
            return pick("a", "cd", "e", "free", "zzzzzz", "zzzzzzz", "pool");
        }
        StringBuilder name = new StringBuilder();
        int pool = random.nextInt(model.poolCount());
        for (int i = 0; model.nameByte(pool, i) >= 0; i++) {
            name.append((char) model.nameByte(pool, i));
        }
        return name.toString();
    }

    private String description() {
        StringBuilder text = new StringBuilder("blocks ");
        text.append(random.nextInt(12) == 0 ? random.nextInt(210) : 5 + random.nextInt(20));
        List<String> names = new ArrayList<>();
        int statements = 1 + random.nextInt(random.nextInt(6) == 0 ? 14 : 6);
        for (int i = 0; i < statements; i++) {
            text.append(spaces()).append(';').append(spaces());
            int dice = random.nextInt(10);
            if (dice < 2) {
                text.append("pick ").append(pick("lowest", "highest", "oldest", "fitting"));
            } else if (dice < 5 && !names.isEmpty()) {
                text.append("grant ").append(names.get(random.nextInt(names.size())));
                text.append(spaces()).append(random.nextInt(30) == 0 ? small() : "2");
            } else {
                String name = random.nextInt(20) == 0 ? name() : "" + (char) ('a' + i);
                names.add(name);
                text.append("pool ").append(name).append(' ').append(3 + random.nextInt(20));
                text.append(' ').append(random.nextInt(random.nextInt(9) == 0 ? 11000 : 300));
            }
        }
        return spoilt(text);
    }

    private String batchText() {
        StringBuilder text = new StringBuilder();
        int commands = 1 + random.nextInt(4);
        for (int i = 0; i < commands; i++) {
            text.append(i == 0 ? "" : ";").append(spaces());
            String from = name();
            String to = name();
            for (int tries = 0; tries < 3 && from.equals(to); tries++) {
                to = name();
            }
            String count = random.nextInt(9) == 0 ? small() : "" + (1 + random.nextInt(2));
            String last = random.nextInt(9) == 0 ? small() : "" + (1 + random.nextInt(9));
            String two = count + " " + from + " " + to + " " + last;
            int dice = random.nextInt(10);
            text.append(dice < 5 ? "move " + two : dice < 7 ? "hold " + two
                    : dice < 9 ? "wait " + last : "back " + Math.max(0, recent(model.entryCount())));
        }
        return spoilt(text);
    }

    private String spoilt(StringBuilder text) {
        if (random.nextInt(8) == 0) {
            int at = random.nextInt(text.length());
            String signs = "; aA90\t" + (char) 255 + (char) 0 + "pz";
            char sign = signs.charAt(random.nextInt(signs.length()));
            switch (random.nextInt(4)) {
                case 0:
                    text.deleteCharAt(at);
                    break;
                case 1:
                    text.insert(at, sign);
                    break;
                case 2:
                    text.setCharAt(at, sign);
                    break;
                default:
                    text.setLength(at);
                    break;
            }
        }
        return text.toString();
    }
}
