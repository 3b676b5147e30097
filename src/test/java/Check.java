import java.lang.reflect.InvocationTargetException;
import java.lang.reflect.Method;
import java.util.concurrent.Callable;

/** Compares answers with those that are due, and ends with exit code 1 if one was wrong. */
final class Check {
    private static int right = 0;
    private static int wrong = 0;

    private Check() {
    }

    static void same(String what, Object got, Object due) {
        if (got.equals(due)) {
            right++;
        } else {
            wrong++;
            System.out.println(what + " answered " + got + ", due is " + due);
        }
    }

    static void index(String what, Callable<Object> call) {
        same(what, answer(call), "throws.IndexOutOfBoundsException");
    }

    static void argument(String what, Callable<Object> call) {
        same(what, answer(call), "throws.IllegalArgumentException");
    }

    /** The answer of a call, or the name of what it throws: the very class, not one below it. */
    static Object answer(Callable<Object> call) {
        try {
            return call.call();
        } catch (Exception e) {
            return "throws." + e.getClass().getSimpleName();
        }
    }

    /** As answer, for a call by reflection. */
    static Object invoked(Method method, Object on, Object... arguments)
            throws IllegalAccessException {
        try {
            return method.invoke(on, arguments);
        } catch (InvocationTargetException e) {
            return "throws." + e.getCause().getClass().getSimpleName();
        }
    }

    static void type(StorageLedger x, String text) {
        for (int i = 0; i < text.length(); i++) {
            x.appendByte(text.charAt(i));
        }
    }

    static int load(StorageLedger x, String text) {
        type(x, text);
        return x.load();
    }

    static int batch(StorageLedger x, String text) {
        type(x, text);
        return x.batch();
    }

    static int named(StorageLedger x, String text) {
        type(x, text);
        return x.poolNamed();
    }

    static StorageLedger ledger(String text) {
        StorageLedger x = new StorageLedger();
        int pools = load(x, text);
        if (pools < 0) {
            throw new IllegalStateException("the test's own description is wrong: " + text);
        }
        return x;
    }

    /** The pools of all blocks as one text, a digit a block. */
    static String map(StorageLedger x) {
        StringBuilder map = new StringBuilder();
        for (int block = 0; block < x.blockCount(); block++) {
            map.append(x.poolOf(block));
        }
        return map.toString();
    }

    /** The properties of an entry, the last one being its partner. */
    static String entry(StorageLedger x, int entry) {
        StringBuilder values = new StringBuilder();
        for (int what = 0; what < 7; what++) {
            values.append(what == 0 ? "" : " ").append(x.entryValue(entry, what));
        }
        return values.toString();
    }

    static String reservation(StorageLedger x, int reservation) {
        StringBuilder values = new StringBuilder();
        for (int what = 0; what < 5; what++) {
            values.append(what == 0 ? "" : " ").append(x.reservationValue(reservation, what));
        }
        return values.toString();
    }

    /** How many answers have been compared. */
    static int count() {
        return right + wrong;
    }

    static void end(String name) {
        System.out.println(name + ": " + right + " answers as due, " + wrong + " not");
        if (wrong != 0) {
            System.exit(1);
        }
    }
}
