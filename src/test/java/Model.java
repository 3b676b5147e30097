import java.util.ArrayList;
import java.util.Comparator;
import java.util.HashMap;
import java.util.List;
import java.util.Map;
import java.util.TreeMap;
import java.util.regex.Matcher;
import java.util.regex.Pattern;
import java.util.stream.Collectors;
import java.util.stream.IntStream;

/**
 * A second StorageLedger, written from the document alone and as plainly as possible: everything is
 * a list that is looked through anew at each call. Methods throw what the document says.
 */
final class Model {
    record Pool(String name, int quota, int rate) {
    }

    record Place(int pool, int since) {
    }

    record Entry(int from, int to, int count, int reason, int time, int kind, int link,
            List<Integer> blocks) {
        Entry linked(int other) {
            return new Entry(from, to, count, reason, time, kind, other, blocks);
        }
    }

    record Reservation(int from, int to, int count, int expiry, int state) {
        Reservation in(int other) {
            return new Reservation(from, to, count, expiry, other);
        }
    }

    record Mark(List<Integer> balances, int entries) {
    }

    /** All members are lists of things that never change, so a shallow copy of the lists is one. */
    static final class State {
        List<Pool> pools = new ArrayList<>();
        List<Place> blocks = new ArrayList<>();
        List<Float> rents = new ArrayList<>();
        List<Entry> entries = new ArrayList<>();
        List<Reservation> reservations = new ArrayList<>();
        List<Mark> marks = new ArrayList<>();
        int time = 0;
        int way = 0;

        State copy() {
            State other = new State();
            other.pools = new ArrayList<>(pools);
            other.blocks = new ArrayList<>(blocks);
            other.rents = new ArrayList<>(rents);
            other.entries = new ArrayList<>(entries);
            other.reservations = new ArrayList<>(reservations);
            other.marks = new ArrayList<>(marks);
            other.time = time;
            other.way = way;
            return other;
        }
    }

    record Token(String text, int at) {
        boolean isWord() {
            return !text.isEmpty() && Character.isLetter(text.charAt(0)) && text.charAt(0) < 128;
        }

        boolean isNumber() {
            return !text.isEmpty() && text.charAt(0) >= '0' && text.charAt(0) <= '9';
        }
    }

    static final class TextFault extends RuntimeException {
        private static final long serialVersionUID = 1L;
        final int kind;
        final int at;

        TextFault(int kind, int at) {
            this.kind = kind;
            this.at = at;
        }
    }

    private State s = new State();
    private final Map<Integer, State> saved = new HashMap<>();
    private String buffer = "";
    private int error = 0;
    private List<Token> tokens;
    private int token;

    Model() {
        s = described("blocks 10");
    }

    // ---- texts ----

    private void split(String text) {
        tokens = new ArrayList<>();
        token = 0;
        Matcher m = Pattern.compile(" +|[a-z]+|[0-9]+|.", Pattern.DOTALL).matcher(text);
        while (m.find()) {
            if (!m.group().startsWith(" ")) {
                // Words of other signs must not count as words of lower-case letters.
                boolean known = m.group().matches("[a-z]+|[0-9]+|;");
                tokens.add(new Token(known ? m.group() : "?", m.start()));
            }
        }
        tokens.add(new Token("", text.length()));
    }

    private Token take() {
        return tokens.get(token++);
    }

    private Token word(String... allowed) {
        Token t = take();
        if (!t.isWord() || allowed.length > 0 && !List.of(allowed).contains(t.text)) {
            throw new TextFault(1, t.at);
        }
        return t;
    }

    private int number(int least, int most) {
        Token t = take();
        if (!t.isNumber()) {
            throw new TextFault(1, t.at);
        }
        java.math.BigInteger value = new java.math.BigInteger(t.text);
        if (value.compareTo(java.math.BigInteger.valueOf(least)) < 0
                || value.compareTo(java.math.BigInteger.valueOf(most)) > 0) {
            throw new TextFault(2, t.at);
        }
        return value.intValue();
    }

    private boolean another() {
        Token t = take();
        if (!t.text.equals(";") && !t.text.isEmpty()) {
            throw new TextFault(1, t.at);
        }
        return t.text.equals(";");
    }

    private static int find(State in, String name) {
        for (int p = 0; p < in.pools.size(); p++) {
            if (in.pools.get(p).name.equals(name)) {
                return p;
            }
        }
        return -1;
    }

    private State described(String text) {
        State n = new State();
        split(text);
        word("blocks");
        int count = number(1, 200);
        n.pools.add(new Pool("free", count, 0));
        n.rents.add(0f);
        for (int b = 0; b < count; b++) {
            n.blocks.add(new Place(0, 0));
        }
        while (another()) {
            Token t = word("pool", "pick", "grant");
            if (t.text.equals("pick")) {
                n.way = List.of("lowest", "highest", "oldest", "fitting").indexOf(
                        word("lowest", "highest", "oldest", "fitting").text);
            } else if (t.text.equals("pool")) {
                if (n.pools.size() == 8) {
                    throw new TextFault(4, t.at);
                }
                Token name = word();
                if (name.text.equals("free") || name.text.length() > 6) {
                    throw new TextFault(1, name.at);
                }
                if (find(n, name.text) >= 0) {
                    throw new TextFault(3, name.at);
                }
                int quota = number(0, 200);
                n.pools.add(new Pool(name.text, quota, number(0, 9999)));
                n.rents.add(0f);
            } else {
                grant(n);
            }
        }
        return n;
    }

    private void grant(State n) {
        Token name = word();
        int to = find(n, name.text);
        if (to <= 0) {
            throw new TextFault(3, name.at);
        }
        int most = Math.min(on(n, 0).size(), n.pools.get(to).quota - on(n, to).size());
        int count = number(1, Math.min(200, most));
        enter(n, 0, to, 0, 0, -1, on(n, 0).subList(0, count));
    }

    int appendByte(int value) {
        argument(value >= 0 && value <= 255);
        if (buffer.length() == 500) {
            return -2;
        }
        buffer += (char) value;
        return buffer.length();
    }

    int load() {
        String text = buffer;
        buffer = "";
        error = 0;
        try {
            s = described(text);
            return s.pools.size();
        } catch (TextFault fault) {
            error = fault.kind;
            return -100 - fault.at;
        }
    }

    int textError() {
        return error;
    }

    int poolNamed() {
        String name = buffer;
        buffer = "";
        return find(s, name);
    }

    private int existing(int other) {
        Token t = word();
        int pool = find(s, t.text);
        if (pool < 0 || pool == other) {
            throw new TextFault(3, t.at);
        }
        return pool;
    }

    private List<int[]> commands(String text) {
        List<int[]> all = new ArrayList<>();
        split(text);
        do {
            Token t = word("move", "hold", "wait", "back");
            switch (t.text) {
                case "wait":
                    all.add(new int[] {2, number(1, 1000)});
                    break;
                case "back":
                    all.add(new int[] {3, number(0, 299)});
                    break;
                default:
                    boolean move = t.text.equals("move");
                    int count = number(1, 200);
                    int from = existing(-1);
                    int to = existing(from);
                    int last = move ? number(0, 9) : number(1, 1000);
                    all.add(new int[] {move ? 0 : 1, from, to, count, last});
            }
        } while (another());
        return all;
    }

    int batch() {
        String text = buffer;
        buffer = "";
        error = 0;
        List<int[]> all;
        try {
            all = commands(text);
        } catch (TextFault fault) {
            error = fault.kind;
            return -100 - fault.at;
        }
        State before = s.copy();
        for (int i = 0; i < all.size(); i++) {
            if (!carriedOut(all.get(i))) {
                s = before;
                return -1000 - i;
            }
        }
        return all.size();
    }

    private boolean carriedOut(int[] c) {
        try {
            switch (c[0]) {
                case 0:
                    return transfer(c[1], c[2], c[3], c[4]) >= 0;
                case 1:
                    return reserve(c[1], c[2], c[3], c[4]) >= 0;
                case 2:
                    return advance(c[1]) >= 0;
                default:
                    return reverse(c[1]) >= 0;
            }
        } catch (IndexOutOfBoundsException | IllegalArgumentException e) {
            return false;
        }
    }

    // ---- arguments ----

    private static void argument(boolean good) {
        if (!good) {
            throw new IllegalArgumentException();
        }
    }

    private static void index(boolean good) {
        if (!good) {
            throw new IndexOutOfBoundsException();
        }
    }

    private void pool(int p) {
        index(p >= 0 && p < s.pools.size());
    }

    private void block(int b) {
        index(b >= 0 && b < s.blocks.size());
    }

    private static void within(int value, int least, int most) {
        argument(value >= least && value <= most);
    }

    private static void interval(int first, int last) {
        argument(first >= 0 && first <= last);
    }

    // ---- pools and blocks ----

    private static List<Integer> on(State in, int p) {
        return IntStream.range(0, in.blocks.size()).filter(b -> in.blocks.get(b).pool == p).boxed()
                .collect(Collectors.toList());
    }

    private static int at(List<Integer> list, int i) {
        return i >= 0 && i < list.size() ? list.get(i) : -1;
    }

    int blockCount() {
        return s.blocks.size();
    }

    int poolCount() {
        return s.pools.size();
    }

    int nameByte(int p, int i) {
        pool(p);
        String name = s.pools.get(p).name;
        return i >= 0 && i < name.length() ? name.charAt(i) : -1;
    }

    int now() {
        return s.time;
    }

    int advance(int ticks) {
        within(ticks, 1, 1000);
        if (s.time + ticks > 1000000) {
            return -2;
        }
        for (int p = 0; p < s.pools.size(); p++) {
            s.rents.set(p, rentAhead(p, ticks));
        }
        s.time += ticks;
        int expired = 0;
        for (int r = 0; r < s.reservations.size(); r++) {
            if (s.reservations.get(r).state == 0 && s.time >= s.reservations.get(r).expiry) {
                s.reservations.set(r, s.reservations.get(r).in(3));
                expired++;
            }
        }
        return expired;
    }

    int setPick(int pick) {
        within(pick, 0, 3);
        int before = s.way;
        s.way = pick;
        return before;
    }

    private static List<List<Integer>> runs(State in, int p) {
        List<List<Integer>> runs = new ArrayList<>();
        int last = -2;
        for (int b : on(in, p)) {
            if (b != last + 1) {
                runs.add(new ArrayList<>());
            }
            runs.get(runs.size() - 1).add(b);
            last = b;
        }
        return runs;
    }

    private List<Integer> picks(int p, int count) {
        List<Integer> all = on(s, p);
        if (s.way == 1) {
            all.sort(Comparator.reverseOrder());
        } else if (s.way == 2) {
            all.sort(Comparator.<Integer>comparingInt(b -> s.blocks.get(b).since)
                    .thenComparingInt(b -> b));
        } else if (s.way == 3) {
            all = runs(s, p).stream().filter(r -> r.size() >= count)
                    .min(Comparator.comparingInt(List::size)).orElse(all);
        }
        return all.subList(0, count).stream().sorted().collect(Collectors.toList());
    }

    private static int enter(State in, int from, int to, int reason, int kind, int link,
            List<Integer> blocks) {
        in.entries.add(new Entry(from, to, blocks.size(), reason, in.time, kind, link,
                List.copyOf(blocks)));
        for (int b : List.copyOf(blocks)) {
            in.blocks.set(b, new Place(to, in.time));
        }
        return in.entries.size() - 1;
    }

    private int pending(int p, boolean from) {
        return s.reservations.stream().filter(r -> r.state == 0 && (from ? r.from : r.to) == p)
                .mapToInt(Reservation::count).sum();
    }

    private int refusal(int from, int to, int count) {
        return available(from) < count ? -3 : room(to) < count ? -4 : 0;
    }

    int transfer(int from, int to, int count, int reason) {
        pool(from);
        pool(to);
        argument(from != to);
        within(count, 1, 200);
        within(reason, 0, 9);
        if (s.entries.size() >= 300) {
            return -2;
        }
        int refused = refusal(from, to, count);
        return refused != 0 ? refused : enter(s, from, to, reason, 0, -1, picks(from, count));
    }

    int transferBlock(int b, int to, int reason) {
        block(b);
        pool(to);
        within(reason, 0, 9);
        int from = s.blocks.get(b).pool;
        if (s.entries.size() >= 300) {
            return -2;
        }
        if (from == to) {
            return -5;
        }
        int refused = refusal(from, to, 1);
        return refused != 0 ? refused : enter(s, from, to, reason, 0, -1, List.of(b));
    }

    int reverse(int e) {
        index(e >= 0 && e < s.entries.size());
        Entry old = s.entries.get(e);
        if (s.entries.size() >= 300) {
            return -2;
        }
        if (old.kind != 0 || old.link != -1) {
            return -5;
        }
        if (!old.blocks.stream().allMatch(b -> s.blocks.get(b).pool == old.to)) {
            return -6;
        }
        int refused = refusal(old.to, old.from, old.count);
        if (refused != 0) {
            return refused;
        }
        s.entries.set(e, old.linked(s.entries.size()));
        return enter(s, old.to, old.from, old.reason, 1, e, old.blocks);
    }

    int reserve(int from, int to, int count, int ticks) {
        pool(from);
        pool(to);
        argument(from != to);
        within(count, 1, 200);
        within(ticks, 1, 1000);
        if (s.reservations.size() >= 60) {
            return -2;
        }
        int refused = refusal(from, to, count);
        if (refused != 0) {
            return refused;
        }
        s.reservations.add(new Reservation(from, to, count, s.time + ticks, 0));
        return s.reservations.size() - 1;
    }

    private Reservation reservation(int r) {
        index(r >= 0 && r < s.reservations.size());
        return s.reservations.get(r);
    }

    int commit(int r, int reason) {
        Reservation it = reservation(r);
        within(reason, 0, 9);
        if (it.state != 0) {
            return -5;
        }
        s.reservations.set(r, it.in(1));
        int answer = transfer(it.from, it.to, it.count, reason);
        if (answer < 0) {
            s.reservations.set(r, it);
        }
        return answer;
    }

    int release(int r) {
        Reservation it = reservation(r);
        if (it.state != 0) {
            return -5;
        }
        s.reservations.set(r, it.in(2));
        return (int) s.reservations.stream().filter(one -> one.state == 0).count();
    }

    int extend(int r, int ticks) {
        Reservation it = reservation(r);
        within(ticks, 1, 1000);
        if (it.state != 0) {
            return -5;
        }
        s.reservations.set(r,
                new Reservation(it.from, it.to, it.count, it.expiry + ticks, it.state));
        return it.expiry + ticks;
    }

    int balance(int p) {
        pool(p);
        return on(s, p).size();
    }

    private int sum(List<Entry> entries, int p) {
        return entries.stream().mapToInt(
                e -> (e.to == p ? e.count : 0) - (e.from == p ? e.count : 0)).sum();
    }

    int booked(int p) {
        pool(p);
        return (p == 0 ? s.blocks.size() : 0) + sum(s.entries, p);
    }

    int available(int p) {
        return balance(p) - pending(p, true);
    }

    int room(int p) {
        return (p == 0 ? s.blocks.size() : quota(p)) - balance(p) - pending(p, false);
    }

    private int quota(int p) {
        pool(p);
        return s.pools.get(p).quota;
    }

    int largestTransfer(int from, int to) {
        pool(from);
        pool(to);
        argument(from != to);
        return IntStream.rangeClosed(0, 200)
                .filter(n -> n == 0 || refusal(from, to, n) == 0).max().getAsInt();
    }

    int poolOf(int b) {
        block(b);
        return s.blocks.get(b).pool;
    }

    int since(int b) {
        block(b);
        return s.blocks.get(b).since;
    }

    int blockAt(int p, int i) {
        pool(p);
        return at(on(s, p), i);
    }

    int wouldPick(int p, int count, int i) {
        pool(p);
        within(count, 1, 200);
        return balance(p) < count ? -1 : at(picks(p, count), i);
    }

    int runCount(int p) {
        pool(p);
        return runs(s, p).size();
    }

    private static int longest(State in, int p) {
        return runs(in, p).stream().mapToInt(List::size).max().orElse(0);
    }

    int longestRun(int p) {
        pool(p);
        return longest(s, p);
    }

    float fragmentation(int p) {
        int n = balance(p);
        return n == 0 ? 0f : 1f - (float) longest(s, p) / (float) n;
    }

    private static void exchange(State in, int a, int b) {
        Place place = in.blocks.get(a);
        in.blocks.set(a, in.blocks.get(b));
        in.blocks.set(b, place);
    }

    boolean swap(int a, int b) {
        block(a);
        block(b);
        argument(a != b);
        exchange(s, a, b);
        return s.blocks.get(a).pool != s.blocks.get(b).pool;
    }

    int bestSwap(int p) {
        pool(p);
        TreeMap<Integer, Integer> firstOfLength = new TreeMap<>();
        for (int a : on(s, p)) {
            for (int b = 0; b < s.blocks.size(); b++) {
                if (s.blocks.get(b).pool != p) {
                    exchange(s, a, b);
                    firstOfLength.putIfAbsent(longest(s, p), 1000 * a + b);
                    exchange(s, a, b);
                }
            }
        }
        if (firstOfLength.isEmpty() || firstOfLength.lastKey() <= longest(s, p)) {
            return -1;
        }
        return firstOfLength.lastEntry().getValue();
    }

    // ---- the journal ----

    int entryCount() {
        return s.entries.size();
    }

    int entryValue(int e, int what) {
        index(e >= 0 && e < s.entries.size());
        within(what, 0, 6);
        Entry it = s.entries.get(e);
        return new int[] {it.from, it.to, it.count, it.reason, it.time, it.kind, it.link}[what];
    }

    int entryBlock(int e, int i) {
        index(e >= 0 && e < s.entries.size());
        return at(s.entries.get(e).blocks, i);
    }

    int bookedAt(int p, int time) {
        pool(p);
        argument(time >= 0);
        return (p == 0 ? s.blocks.size() : 0) + sum(between(0, time), p);
    }

    private List<Entry> between(int first, int last) {
        return s.entries.stream().filter(e -> first <= e.time && e.time <= last)
                .collect(Collectors.toList());
    }

    int peak(int p, int first, int last) {
        pool(p);
        interval(first, last);
        int start = (p == 0 ? s.blocks.size() : 0)
                + sum(first == 0 ? List.of() : between(0, first - 1), p);
        List<Entry> inside = between(first, last);
        return IntStream.rangeClosed(0, inside.size())
                .map(n -> start + sum(inside.subList(0, n), p)).max().getAsInt();
    }

    int flow(int from, int to, int first, int last) {
        pool(from);
        pool(to);
        interval(first, last);
        return between(first, last).stream().filter(e -> e.from == from && e.to == to)
                .mapToInt(Entry::count).sum();
    }

    int reasonTotal(int reason, int first, int last) {
        within(reason, 0, 9);
        interval(first, last);
        return between(first, last).stream().filter(e -> e.reason == reason)
                .mapToInt(e -> e.kind == 0 ? e.count : e.kind == 1 ? -e.count : 0).sum();
    }

    int busiest(int first, int last) {
        interval(first, last);
        int[] moved = new int[s.pools.size()];
        for (Entry e : between(first, last)) {
            moved[e.from] += e.count;
            moved[e.to] += e.count;
        }
        int most = IntStream.of(moved).max().getAsInt();
        return between(first, last).isEmpty() ? -1
                : IntStream.range(0, moved.length).filter(p -> moved[p] == most).min().getAsInt();
    }

    // ---- reservations and rents ----

    int reservationCount() {
        return s.reservations.size();
    }

    int reservationValue(int r, int what) {
        Reservation it = reservation(r);
        within(what, 0, 4);
        return new int[] {it.from, it.to, it.count, it.expiry, it.state}[what];
    }

    int reservedFrom(int p) {
        pool(p);
        return pending(p, true);
    }

    int nextExpiry() {
        return IntStream.range(0, s.reservations.size())
                .filter(r -> s.reservations.get(r).state == 0).boxed()
                .min(Comparator.comparingInt(r -> s.reservations.get(r).expiry)).orElse(-1);
    }

    int whenAvailable(int p, int count) {
        pool(p);
        within(count, 0, 200);
        int end = s.reservations.stream().mapToInt(Reservation::expiry).max().orElse(0);
        for (int time = s.time; time <= Math.max(s.time, end); time++) {
            int then = time;
            int held = s.reservations.stream()
                    .filter(r -> r.state == 0 && r.from == p && r.expiry > then)
                    .mapToInt(Reservation::count).sum();
            if (balance(p) - held >= count) {
                return time;
            }
        }
        return -1;
    }

    float rent(int p) {
        pool(p);
        return s.rents.get(p);
    }

    float totalRent() {
        float sum = 0f;
        for (float rent : s.rents) {
            sum = sum + rent;
        }
        return sum;
    }

    float rentAhead(int p, int ticks) {
        pool(p);
        within(ticks, 1, 1000);
        return s.rents.get(p) + s.pools.get(p).rate / 100f * (balance(p) * ticks);
    }

    // ---- audits and snapshots ----

    int corrupt(int b, int p) {
        block(b);
        pool(p);
        int before = s.blocks.get(b).pool;
        s.blocks.set(b, new Place(p, s.time));
        return before;
    }

    int mismatches() {
        return IntStream.range(0, s.pools.size()).filter(p -> booked(p) != balance(p))
                .map(p -> 1 << p).sum();
    }

    int reconcile() {
        State before = s.copy();
        int made = 0;
        while (mismatches() != 0) {
            int more = IntStream.range(0, s.pools.size()).filter(p -> booked(p) > balance(p))
                    .min().getAsInt();
            int less = IntStream.range(0, s.pools.size()).filter(p -> booked(p) < balance(p))
                    .min().getAsInt();
            int count = Math.min(booked(more) - balance(more), balance(less) - booked(less));
            s.entries.add(new Entry(more, less, count, 0, s.time, 2, -1, List.of()));
            made++;
        }
        if (s.entries.size() > 300) {
            s = before;
            return -2;
        }
        return made;
    }

    int checkpoint() {
        if (s.marks.size() >= 10) {
            return -2;
        }
        s.marks.add(new Mark(IntStream.range(0, s.pools.size()).map(this::balance).boxed()
                .collect(Collectors.toList()), s.entries.size()));
        return s.marks.size() - 1;
    }

    int auditSet(int first, int second) {
        return IntStream.range(0, s.pools.size()).filter(p -> auditOf(first, second, p) != 0)
                .map(p -> 1 << p).sum();
    }

    int auditOf(int first, int second, int p) {
        pool(p);
        argument(first >= 0 && first <= second && second < s.marks.size());
        Mark a = s.marks.get(first);
        Mark b = s.marks.get(second);
        return b.balances.get(p) - a.balances.get(p)
                - sum(s.entries.subList(a.entries, b.entries), p);
    }

    int saveSnapshot(int slot) {
        within(slot, 0, 1);
        saved.put(slot, s.copy());
        return s.time;
    }

    int restoreSnapshot(int slot) {
        within(slot, 0, 1);
        if (!saved.containsKey(slot)) {
            return -1;
        }
        s = saved.get(slot).copy();
        return s.time;
    }
}
