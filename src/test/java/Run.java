import java.lang.reflect.InvocationTargetException;
import java.lang.reflect.Method;
import java.util.ArrayList;
import java.util.Arrays;
import java.util.List;
import java.util.Map;
import java.util.TreeMap;

/**
 * A run of calls on a new object, written as in the document ("transfer(0, 1, 2, 0)"). The calls are
 * kept, so that the state behind a call can be looked at on other objects, by the same calls: no
 * object gets more than the 512 calls for which the document promises something.
 */
final class Run {
    private static final int MOST_CALLS = 512;
    private static final Map<String, Method> FACE = new TreeMap<>();

    static {
        for (Method method : StorageLedger.class.getMethods()) {
            if (method.getDeclaringClass() == StorageLedger.class) {
                FACE.put(method.getName(), method);
            }
        }
    }

    private final List<String> history = new ArrayList<>();
    private final Player player;

    private Run(int mostCalls) {
        player = new Player(mostCalls);
    }

    static Run fresh() {
        return new Run(MOST_CALLS);
    }

    /** For the last time, 1000000, which 512 calls do not reach. */
    static Run withoutLimit() {
        return new Run(Integer.MAX_VALUE);
    }

    static Run of(String description) {
        return fresh().typed(description).does("load()");
    }

    /** An object and the number of its calls. */
    private static final class Player {
        private final StorageLedger ledger = new StorageLedger();
        private final int mostCalls;
        private int calls = 0;

        Player(int mostCalls) {
            this.mostCalls = mostCalls;
        }

        boolean mayGoOn() {
            return calls < mostCalls;
        }

        Object answer(String call) {
            if (!mayGoOn()) {
                throw new IllegalStateException("a test with too many calls: " + Doc.now());
            }
            calls++;
            int open = call.indexOf('(');
            Method method = FACE.get(call.substring(0, open));
            String inside = call.substring(open + 1, call.length() - 1);
            Object[] arguments = inside.isEmpty() ? new Object[0]
                    : Arrays.stream(inside.split(", *")).map(Integer::valueOf).toArray();
            try {
                return method.invoke(ledger, arguments);
            } catch (InvocationTargetException e) {
                return "throws." + e.getCause().getClass().getSimpleName();
            } catch (ReflectiveOperationException | RuntimeException e) {
                throw new IllegalStateException("no such call: " + call, e);
            }
        }
    }

    private Object answer(String call) {
        history.add(call);
        return player.answer(call);
    }

    // ---- what a test does ----

    Run typed(String text) {
        for (int i = 0; i < text.length(); i++) {
            does("appendByte(" + (int) text.charAt(i) + ")");
        }
        return this;
    }

    /** Calls that lead to where something is tested; none of them may fail. */
    Run does(String... calls) {
        for (String call : calls) {
            Object answer = answer(call);
            boolean failed = answer instanceof String || answer instanceof Integer i && i < 0;
            if (failed) {
                Check.same(Doc.now() + ": " + call + ", on the way,", answer, "no failure");
            }
        }
        return this;
    }

    Run times(int times, String... calls) {
        for (int i = 0; i < times; i++) {
            does(calls);
        }
        return this;
    }

    Run due(String call, Object due) {
        Check.same(Doc.now() + ": " + call, answer(call), due);
        return this;
    }

    /** A call that must answer so and change nothing: a question, or a call that is refused. */
    Run still(String call, Object due) {
        // Something in the buffer, for that must stay as well.
        List<String> before = with("appendByte(102)", "appendByte(114)", "appendByte(101)", "now()");
        List<String> behind = new ArrayList<>(before);
        behind.set(behind.size() - 1, call);
        Check.same(Doc.now() + ": the state behind " + call, portrait(behind, true),
                portrait(before, true));
        return due(call, due);
    }

    /** A text that load or batch refuses: the buffer is emptied, and nothing else changes. */
    Run refused(String reader, String text, int answer, int error) {
        typed(text);
        Check.same(Doc.now() + ": the state behind " + reader + " of " + text,
                portrait(with(reader), false), portrait(with("poolNamed()"), false));
        String what = Doc.now() + ": " + reader + " of " + text;
        Check.same(what, answer(reader), answer);
        Check.same(what + ", textError", answer("textError()"), error);
        return this;
    }

    Run loads(String text, int pools) {
        return reads("load()", text, pools);
    }

    Run batches(String text, int commands) {
        return reads("batch()", text, commands);
    }

    private Run reads(String reader, String text, int due) {
        typed(text);
        String what = Doc.now() + ": " + reader + " of " + text;
        Check.same(what, answer(reader), due);
        Check.same(what + ", textError", answer("textError()"), 0);
        return this;
    }

    /** The pools of all blocks, a digit a block. */
    Run map(String due) {
        StringBuilder map = new StringBuilder();
        for (int block = 0; block < due.length(); block++) {
            map.append(answer("poolOf(" + block + ")"));
        }
        Check.same(Doc.now() + ": the map", map.toString(), due);
        return this;
    }

    /** The seven properties of an entry, or the five of a reservation. */
    Run entry(int entry, String due) {
        return values("entryValue(" + entry + ", ", 7, due);
    }

    Run reservation(int reservation, String due) {
        return values("reservationValue(" + reservation + ", ", 5, due);
    }

    /** The blocks of an entry, and that there are no more. */
    Run blocks(int entry, String due) {
        return values("entryBlock(" + entry + ", ", due.split(" ").length + 1, due + " -1");
    }

    /** The blocks that would be picked, and that there are no more. */
    Run picks(int pool, int count, String due) {
        return values("wouldPick(" + pool + ", " + count + ", ", count + 1, due + " -1");
    }

    private Run values(String call, int count, String due) {
        StringBuilder values = new StringBuilder();
        for (int i = 0; i < count; i++) {
            values.append(i == 0 ? "" : " ").append(answer(call + i + ")"));
        }
        Check.same(Doc.now() + ": " + call + "..)", values.toString(), due);
        return this;
    }

    /** That this run and another one lead to the same state. */
    Run sameAs(Run other) {
        Check.same(Doc.now() + ": the state", portrait(history, false), portrait(other.history, false));
        return this;
    }

    Run unlike(Run other) {
        boolean same = portrait(history, false).equals(portrait(other.history, false));
        Check.same(Doc.now() + ": the states are the same", same, false);
        return this;
    }

    // ---- the whole state, as far as the calls that are left can show it ----

    private List<String> with(String... calls) {
        List<String> all = new ArrayList<>(history);
        all.addAll(Arrays.asList(calls));
        return all;
    }

    private String portrait(List<String> calls, boolean withError) {
        Player seen = new Player(player.mostCalls == MOST_CALLS ? MOST_CALLS : calls.size() + MOST_CALLS);
        calls.forEach(seen::answer);
        Portrait portrait = new Portrait(seen);
        if (withError) {
            portrait.ask("textError()");
        }
        portrait.ask("appendByte(101)");
        portrait.ask("poolNamed()");
        portrait.askAll();
        portrait.ask("restoreSnapshot(0)");
        portrait.askShort();
        portrait.ask("restoreSnapshot(1)");
        portrait.askShort();
        return portrait.text.toString();
    }

    private static final class Portrait {
        private final Player seen;
        private final StringBuilder text = new StringBuilder();

        Portrait(Player seen) {
            this.seen = seen;
        }

        /** The answer as a number; when no call is left, the same for every question. */
        int ask(String call) {
            if (!seen.mayGoOn()) {
                return -1;
            }
            Object answer = seen.answer(call);
            text.append('\n').append(call).append(" = ").append(answer);
            return answer instanceof Integer number ? number : -1;
        }

        private void askValues(String call, int most) {
            for (int i = 0; i < most && ask(call + i + ")") != -1; i++) {
                continue;
            }
        }

        void askAll() {
            int pools = ask("poolCount()");
            int blocks = ask("blockCount()");
            ask("now()");
            int entries = ask("entryCount()");
            int reservations = ask("reservationCount()");
            for (int pool = 0; pool < pools; pool++) {
                ask("rent(" + pool + ")");
                ask("booked(" + pool + ")");
                ask("room(" + pool + ")");
            }
            for (int block = 0; block < blocks; block++) {
                ask("poolOf(" + block + ")");
                ask("since(" + block + ")");
            }
            for (int reservation = reservations - 1; reservation >= 0; reservation--) {
                for (int what = 0; what < 5; what++) {
                    ask("reservationValue(" + reservation + ", " + what + ")");
                }
            }
            askPoolsAndWay(pools);
            // From the last one back, for a call that was not refused changes the last ones.
            for (int entry = entries - 1; entry >= 0 && entry > entries - 6; entry--) {
                for (int what = 0; what < 7; what++) {
                    ask("entryValue(" + entry + ", " + what + ")");
                }
                askValues("entryBlock(" + entry + ", ", blocks);
            }
        }

        private void askPoolsAndWay(int pools) {
            ask("setPick(0)");
            int answer = ask("checkpoint()");
            int made = answer == Boundaries.FULL ? 9 : answer;
            for (int pool = 0; pool < pools; pool++) {
                for (int earlier = made; earlier >= 0; earlier--) {
                    ask("auditOf(" + earlier + ", " + made + ", " + pool + ")");
                }
                askValues("nameByte(" + pool + ", ", 7);
                ask("rentAhead(" + pool + ", 1000)");
                ask("reservedFrom(" + pool + ")");
            }
        }

        void askShort() {
            ask("entryCount()");
            ask("reservationCount()");
            ask("mismatches()");
            int blocks = ask("blockCount()");
            for (int block = 0; block < blocks; block++) {
                ask("poolOf(" + block + ")");
            }
        }
    }
}
