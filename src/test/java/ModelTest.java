import java.util.ArrayList;
import java.util.Arrays;
import java.util.HashMap;
import java.util.HashSet;
import java.util.List;
import java.util.Map;
import java.util.Random;
import java.util.Set;
import java.util.TreeSet;

/**
 * Random runs against a second, slow writing of the document: typed arrays, lists of people, orders
 * and payments by trying them all. The seeds are fixed, so a fault comes again.
 */
public final class ModelTest {
    private static final int RUNS = 3000, CALLS = 512;
    private static final String[] NAMES = {"line", "ofPerson", "hurry", "wall", "lease", "go", "morning", "owes",
        "pays", "calls", "order", "loss", "let", "balance", "cleared", "were", "reading", "back", "hastes", "rooms",
        "kinds", "odds", "sheet", "lose", "put", "cell", "copy", "tell", "hear", "as", "trace", "fault", "many"};
    private static final int[] ARGUMENTS = {4, 2, 2, 2, 1, 0, 0, 2, 3, 5, 2, 1, 2, 1, 1, 3, 3, 1, 1, 1,
        1, 2, 3, 1, 3, 3, 5, 1, 1, 2, 0, 0, 1};

    /** A refusal or a fault, as an answer. */
    private static final class Refused extends RuntimeException {
        final int answer;
        final int fault;

        Refused(int answer, int fault) {
            super(null, null, false, false);
            this.answer = answer;
            this.fault = fault;
        }
    }

    private static Refused refused(int answer) {
        return new Refused(answer, 0);
    }

    private static Refused fault(int fault) {
        return new Refused(-10 - fault, fault);
    }

    private static final class Person {
        int number;
        char letter;
        int haste;
        int room;

        int would() {
            return letter == 'p' ? haste : letter == 'u' ? haste + haste : haste >> 1;
        }
    }

    private static final class Model {
        Object[] sheets = new Object[4];
        List<Person> people = new ArrayList<>();
        Set<Integer> there = new TreeSet<>();
        Map<List<Integer>, Integer> owed = new HashMap<>();
        List<int[]> readings = new ArrayList<>();
        int ground, mornings, trace, latest;

        int may(Person q) {
            return q.would() < q.room + ground ? q.would() : q.room + ground;
        }

        void need(boolean is, int refusal) {
            if (!is) {
                throw refused(refusal);
            }
        }

        void within(int v, int low, int high) {
            need(low <= v && v <= high, -2);
        }

        Person person(int p) {
            need(0 <= p && p < people.size(), -1);
            return people.get(p);
        }

        static int laneOf(Object row) {
            return row instanceof byte[] ? 0 : row instanceof short[] ? 1 : 2;
        }

        static int sizeOf(Object row) {
            return java.lang.reflect.Array.getLength(row);
        }

        static int get(Object row, int i) {
            return row instanceof byte[] b ? b[i] : row instanceof short[] s ? s[i] : ((int[]) row)[i];
        }

        static void set(Object row, int i, int v) {
            if (row instanceof byte[] b) {
                b[i] = (byte) v;
            } else if (row instanceof short[] s) {
                s[i] = (short) v;
            } else {
                ((int[]) row)[i] = v;
            }
        }

        /** The cells as ints, after the faults in the order CAST, NULL, SIZE, INDEX. */
        int[] cells(int sheet, int lane, int i, long n) {
            Object row = sheets[sheet];
            if (row != null && laneOf(row) != lane) {
                throw fault(2);
            }
            if (row == null) {
                throw fault(1);
            }
            if (n < 0) {
                throw fault(4);
            }
            if (i < 0 || i + n > sizeOf(row)) {
                throw fault(3);
            }
            int[] cells = new int[(int) n];
            for (int k = 0; k < n; k++) {
                cells[k] = get(row, i + k);
            }
            return cells;
        }

        void sheetAndLane(int sheet, int lane) {
            need(0 <= sheet && sheet < 4, -1);
            within(lane, 0, 2);
        }

        /** Whether some TEXT begins with this one: it can be filled up from a full one. */
        static boolean begins(String text) {
            String rest = "m0;p00;p00;p00;p00;p00;p00";
            if (text.length() > rest.length()) {
                return false;
            }
            String filled = text + rest.substring(text.length());
            return filled.matches("m[0-9](;[pul][0-9][0-9]){2,6}");
        }

        int line(int sheet, int lane, int i, int n) {
            sheetAndLane(sheet, lane);
            StringBuilder made = new StringBuilder();
            for (int code : cells(sheet, lane, i, n)) {
                made.append(code < 0 || code > 126 ? '?' : (char) code);
            }
            String text = made.toString();
            if (!text.matches("m[0-9](;[pul][0-9][0-9]){2,6}")) {
                int place = 0;
                while (place < n && begins(text.substring(0, place + 1))) {
                    place++;
                }
                return -100 - place;
            }
            people.clear();
            there.clear();
            owed.clear();
            readings.clear();
            mornings = 0;
            String[] parts = text.split(";");
            ground = parts[0].charAt(1) - '0';
            for (int k = 1; k < parts.length; k++) {
                Person q = new Person();
                q.number = k - 1;
                q.letter = parts[k].charAt(0);
                q.haste = Integer.parseInt(parts[k].substring(1, 2));
                q.room = Integer.parseInt(parts[k].substring(2));
                people.add(q);
                there.add(k - 1);
            }
            return people.size();
        }

        int debt(int p, int other) {
            return owed.getOrDefault(List.of(p, other), 0);
        }

        int ofPerson(int p, int what) {
            Person q = person(p);
            within(what, 0, 7);
            int by = 0;
            int to = 0;
            for (int other = 0; other < people.size(); other++) {
                by += debt(p, other);
                to += debt(other, p);
            }
            return new int[] {"pul".indexOf(q.letter), q.haste, q.room, q.would(), may(q),
                there.contains(p) ? 1 : 0, by, to}[what];
        }

        /** Who goes DOWN, FAR, SECOND (-1: none). */
        int[] call(Set<Integer> set) {
            List<Integer> heads = new ArrayList<>();
            int seenAt = -1;
            while (seenAt != heads.size()) {
                seenAt = heads.size();
                for (int p : set) {
                    boolean leads = !heads.isEmpty() && heads.get(heads.size() - 1) == p;
                    if (!leads && may(people.get(p)) > heads.size()) {
                        heads.add(p);
                    }
                }
            }
            int far = heads.size();
            return new int[] {far == 0 ? set.iterator().next() : heads.get(far - 1), far,
                far < 2 ? -1 : heads.get(far - 2)};
        }

        int go() {
            need(!there.isEmpty(), -3);
            int[] end = call(there);
            there.remove(end[0]);
            if (end[2] >= 0) {
                owed.merge(List.of(end[0], end[2]), end[1], Integer::sum);
            }
            return end[0];
        }

        int morning() {
            need(!people.isEmpty(), -3);
            int away = people.size() - there.size();
            for (Person q : people) {
                there.add(q.number);
            }
            mornings++;
            return away;
        }

        void two(int p, int other) {
            person(p);
            person(other);
            need(p != other, -1);
        }

        int pays(int p, int other, int n) {
            two(p, other);
            within(n, 1, 99);
            need(debt(p, other) >= n, -3);
            owed.merge(List.of(p, other), -n, Integer::sum);
            return debt(p, other);
        }

        int calls(int sheet, int lane, int i, int n, int what) {
            sheetAndLane(sheet, lane);
            within(n, 0, 20);
            within(what, 0, 3);
            int[] cells = cells(sheet, lane, i, 2L * n);
            need(!people.isEmpty(), -3);
            for (int k = 0; k < n; k++) {
                person(cells[2 * k]);
            }
            int far = 0;
            int head = -9;
            for (int k = 0; k < n; k++) {
                Person q = people.get(cells[2 * k]);
                int steps = cells[2 * k + 1];
                boolean right = there.contains(q.number) && steps <= may(q) && far < steps;
                if (!right) {
                    return what == 1 ? k : -100 - k;
                }
                far = steps;
                head = q.number;
            }
            int on = 0;
            for (int p : there) {
                if (p != head && may(people.get(p)) > far) {
                    on++;
                }
            }
            return new int[] {far, -9, head, on}[what];
        }

        List<int[]> order() {
            List<int[]> all = new ArrayList<>();
            Set<Integer> left = new TreeSet<>(there);
            while (!left.isEmpty()) {
                int[] end = call(left);
                left.remove(end[0]);
                all.add(end);
            }
            return all;
        }

        int order(int k, int what) {
            within(k, 0, 5);
            within(what, 0, 1);
            need(!people.isEmpty(), -3);
            List<int[]> all = order();
            return k < all.size() ? all.get(k)[what] : -9;
        }

        /** The least LOSS of all orders of those left, when so many have gone. */
        int least(Set<Integer> left, int gone) {
            int least = left.isEmpty() ? 0 : Integer.MAX_VALUE;
            for (int p : left) {
                Set<Integer> rest = new TreeSet<>(left);
                rest.remove(p);
                least = Math.min(least, gone * people.get(p).haste + least(rest, gone + 1));
            }
            return least;
        }

        int loss(int what) {
            within(what, 0, 1);
            need(!people.isEmpty(), -3);
            if (what == 1) {
                return least(there, 0);
            }
            int sum = 0;
            List<int[]> all = order();
            for (int k = 0; k < all.size(); k++) {
                sum += people.get(all.get(k)[0]).haste * k;
            }
            return sum;
        }

        int let(int p, int k) {
            Person q = person(p);
            within(k, 0, 5);
            need(there.contains(p), -3);
            int own = q.room;
            int found = -9;
            for (int room = 9; room >= 0; room--) {
                q.room = room;
                List<int[]> all = order();
                for (int at = 0; at < all.size() && at <= k; at++) {
                    found = all.get(at)[0] == p ? room : found;
                }
            }
            q.room = own;
            return found;
        }

        int balance(int p) {
            return ofPerson(p, 7) - ofPerson(p, 6);
        }

        /** The fewest payments, by trying to settle the first one with each of the others. */
        static int fewest(int[] balances, int from) {
            while (from < balances.length && balances[from] == 0) {
                from++;
            }
            if (from == balances.length) {
                return 0;
            }
            int least = balances.length;
            for (int k = from + 1; k < balances.length; k++) {
                if ((long) balances[k] * balances[from] < 0) {
                    balances[k] += balances[from];
                    least = Math.min(least, 1 + fewest(balances, from + 1));
                    balances[k] -= balances[from];
                }
            }
            return least;
        }

        int cleared(int what) {
            within(what, 0, 1);
            need(!people.isEmpty(), -3);
            int[] balances = new int[people.size()];
            int sum = 0;
            for (int p = 0; p < balances.length; p++) {
                balances[p] = balance(p);
                sum += Math.abs(balances[p]);
            }
            return what == 0 ? sum / 2 : fewest(balances, 0);
        }

        Set<Integer> setOf(int bits) {
            Set<Integer> set = new TreeSet<>();
            for (int p = 0; p < people.size(); p++) {
                if ((bits >> p) % 2 == 1) {
                    set.add(p);
                }
            }
            return set;
        }

        /** All sets by which one goes first, at v steps (-1: at any). */
        List<Integer> sets(int p, int v) {
            List<Integer> found = new ArrayList<>();
            for (int bits = 1; bits < 1 << people.size(); bits++) {
                int[] end = call(setOf(bits));
                if (end[0] == p && (v < 0 || end[1] == v)) {
                    found.add(bits);
                }
            }
            return found;
        }

        int were(int p, int v, int what) {
            person(p);
            within(v, 0, 18);
            within(what, 0, 2);
            List<Integer> found = sets(p, v);
            if (what == 0) {
                return found.size();
            }
            need(!found.isEmpty(), -9);
            return what == 1 ? found.get(0) : found.stream().reduce((a, b) -> a & b).get();
        }

        int reading(int p, int far, int on) {
            person(p);
            within(far, 0, 18);
            within(on, 0, 1);
            need(readings.size() < 8, -4);
            readings.add(new int[] {p, far, on});
            return readings.size() - 1;
        }

        int back(int k) {
            within(k, 0, readings.size());
            for (int j = 0; j < k; j++) {
                readings.remove(readings.size() - 1);
            }
            return readings.size();
        }

        boolean areSo() {
            return readings.stream().allMatch(r -> may(people.get(r[0])) > r[1] == (r[2] == 1));
        }

        int hastes(int p) {
            Person q = person(p);
            int own = q.haste;
            int set = 0;
            for (q.haste = 0; q.haste < 10; q.haste++) {
                set += areSo() ? 1 << q.haste : 0;
            }
            q.haste = own;
            return set;
        }

        int rooms(int p) {
            Person q = person(p);
            int own = q.room;
            int set = 0;
            for (q.room = 0; q.room < 10; q.room++) {
                set += areSo() ? 1 << q.room : 0;
            }
            q.room = own;
            return set;
        }

        int kinds(int p) {
            Person q = person(p);
            char own = q.letter;
            int set = 0;
            for (int kind = 0; kind < 3; kind++) {
                q.letter = "pul".charAt(kind);
                set += areSo() ? 1 << kind : 0;
            }
            q.letter = own;
            return set;
        }

        long odds(int p, int which) {
            person(p);
            within(which, 0, 1);
            java.math.BigInteger upper = java.math.BigInteger.valueOf(sets(p, -1).size());
            java.math.BigInteger lower = java.math.BigInteger.valueOf(1L << people.size());
            return (which == 0 ? upper : lower).divide(upper.gcd(lower)).longValue();
        }

        int sheet(int k, int lane, int n) {
            sheetAndLane(k, lane);
            need(n <= 60, -2);
            if (n < 0) {
                throw fault(4);
            }
            sheets[k] = lane == 0 ? new byte[n] : lane == 1 ? new short[n] : new int[n];
            return 1;
        }

        int lose(int k) {
            need(0 <= k && k < 4, -1);
            int had = sheets[k] == null ? 0 : 1;
            sheets[k] = null;
            return had;
        }

        int put(int k, int i, int v) {
            need(0 <= k && k < 4, -1);
            if (sheets[k] == null) {
                throw fault(1);
            }
            if (i < 0 || i >= sizeOf(sheets[k])) {
                throw fault(3);
            }
            set(sheets[k], i, v);
            return 1;
        }

        long cell(int k, int i, int lane) {
            sheetAndLane(k, lane);
            return cells(k, lane, i, 1)[0];
        }

        int copy(int k, int i, int other, int j, int n) {
            need(0 <= k && k < 4 && 0 <= other && other < 4, -1);
            Object from = sheets[k];
            Object to = sheets[other];
            if (from == null || to == null) {
                throw fault(1);
            }
            if (laneOf(from) != laneOf(to)) {
                throw fault(2);
            }
            try {
                System.arraycopy(from, i, to, j, n);
            } catch (IndexOutOfBoundsException e) {
                throw fault(3);
            }
            return n;
        }

        void leave(int... numbers) {
            for (int number : numbers) {
                trace = trace * 31 + number;
            }
        }

        int tell(int p) {
            Person q = person(p);
            switch (q.letter) {
                case 'p':
                    leave(1);
                    return q.haste;
                case 'u':
                    leave(2, 1);
                    return q.haste + 100;
                default:
                    leave(3, 2, 1, 1);
                    return 2 * q.haste + 100;
            }
        }

        int hear(int p) {
            boolean lame = person(p).letter == 'l';
            leave(lame ? 5 : 4);
            return lame ? 20 : p;
        }

        int as(int p, int kind) {
            int own = "pul".indexOf(person(p).letter);
            within(kind, 0, 2);
            if (own < kind) {
                throw fault(2);
            }
            return 1;
        }

        int many(int what) {
            within(what, 0, 4);
            return new int[] {people.size(), ground, there.size(), mornings, readings.size()}[what];
        }

        long answer(String name, int[] a) {
            switch (name) {
                case "line": return line(a[0], a[1], a[2], a[3]);
                case "ofPerson": return ofPerson(a[0], a[1]);
                case "hurry": {
                    Person q = person(a[0]);
                    within(a[1], 0, 9);
                    int was = q.haste;
                    q.haste = a[1];
                    return was;
                }
                case "wall": {
                    Person q = person(a[0]);
                    within(a[1], 0, 9);
                    int was = q.room;
                    q.room = a[1];
                    return was;
                }
                case "lease": {
                    within(a[0], 0, 9);
                    need(!people.isEmpty(), -3);
                    int was = ground;
                    ground = a[0];
                    return was;
                }
                case "go": return go();
                case "morning": return morning();
                case "owes":
                    two(a[0], a[1]);
                    return debt(a[0], a[1]);
                case "pays": return pays(a[0], a[1], a[2]);
                case "calls": return calls(a[0], a[1], a[2], a[3], a[4]);
                case "order": return order(a[0], a[1]);
                case "loss": return loss(a[0]);
                case "let": return let(a[0], a[1]);
                case "balance":
                    person(a[0]);
                    return balance(a[0]) + 10000;
                case "cleared": return cleared(a[0]);
                case "were": return were(a[0], a[1], a[2]);
                case "reading": return reading(a[0], a[1], a[2]);
                case "back": return back(a[0]);
                case "hastes": return hastes(a[0]);
                case "rooms": return rooms(a[0]);
                case "kinds": return kinds(a[0]);
                case "odds": return odds(a[0], a[1]);
                case "sheet": return sheet(a[0], a[1], a[2]);
                case "lose": return lose(a[0]);
                case "put": return put(a[0], a[1], a[2]);
                case "cell": return cell(a[0], a[1], a[2]);
                case "copy": return copy(a[0], a[1], a[2], a[3], a[4]);
                case "tell": return tell(a[0]);
                case "hear": return hear(a[0]);
                case "as": return as(a[0], a[1]);
                case "trace": return trace;
                case "fault": return latest;
                default: return many(a[0]);
            }
        }

        private static final Set<String> WITH_FAULTS =
            new HashSet<>(Arrays.asList("line", "calls", "sheet", "put", "cell", "copy", "as"));

        long due(String name, int[] a) {
            long answer;
            int fault = 0;
            try {
                answer = answer(name, a);
            } catch (Refused r) {
                answer = name.equals("odds") || name.equals("cell") ? Long.MIN_VALUE : r.answer;
                fault = r.fault;
            }
            if (WITH_FAULTS.contains(name)) {
                latest = fault;
            }
            return answer;
        }
    }

    private static long got(StepBack x, String name, int[] a) {
        switch (name) {
            case "line": return x.line(a[0], a[1], a[2], a[3]);
            case "ofPerson": return x.ofPerson(a[0], a[1]);
            case "hurry": return x.hurry(a[0], a[1]);
            case "wall": return x.wall(a[0], a[1]);
            case "lease": return x.lease(a[0]);
            case "go": return x.go();
            case "morning": return x.morning();
            case "owes": return x.owes(a[0], a[1]);
            case "pays": return x.pays(a[0], a[1], a[2]);
            case "calls": return x.calls(a[0], a[1], a[2], a[3], a[4]);
            case "order": return x.order(a[0], a[1]);
            case "loss": return x.loss(a[0]);
            case "let": return x.let(a[0], a[1]);
            case "balance": return x.balance(a[0]);
            case "cleared": return x.cleared(a[0]);
            case "were": return x.were(a[0], a[1], a[2]);
            case "reading": return x.reading(a[0], a[1], a[2]);
            case "back": return x.back(a[0]);
            case "hastes": return x.hastes(a[0]);
            case "rooms": return x.rooms(a[0]);
            case "kinds": return x.kinds(a[0]);
            case "odds": return x.odds(a[0], a[1]);
            case "sheet": return x.sheet(a[0], a[1], a[2]);
            case "lose": return x.lose(a[0]);
            case "put": return x.put(a[0], a[1], a[2]);
            case "cell": return x.cell(a[0], a[1], a[2]);
            case "copy": return x.copy(a[0], a[1], a[2], a[3], a[4]);
            case "tell": return x.tell(a[0]);
            case "hear": return x.hear(a[0]);
            case "as": return x.as(a[0], a[1]);
            case "trace": return x.trace();
            case "fault": return x.fault();
            case "many": return x.many(a[0]);
            default: throw new IllegalStateException(name);
        }
    }

    private static final int[] FAR_OFF = {Integer.MIN_VALUE, Integer.MAX_VALUE, -1, 7, 10, 19, 21, 60, 61, 100,
        Integer.MAX_VALUE - 1, 1 << 30, 32, 33, 64};

    private final Random random;
    private final StepBack x = new StepBack();
    private final Model model = new Model();
    private final StringBuilder log = new StringBuilder();
    private int made = 0;
    private int wrong = 0;

    private ModelTest(long seed) {
        random = new Random(seed);
    }

    private void ask(String name, int... a) {
        if (made >= CALLS) {
            return;
        }
        made++;
        long due = model.due(name, a);
        String answered;
        try {
            long got = got(x, name, a);
            answered = got == due ? null : Long.toString(got);
        } catch (RuntimeException | StackOverflowError e) {
            answered = e.toString();
        }
        log.append(name).append(Arrays.toString(a)).append(" -> ").append(due).append('\n');
        if (answered != null) {
            wrong++;
            log.append("    but answered ").append(answered).append('\n');
        }
    }

    private void write(int sheet, int lane, int at, int[] cells) {
        ask("sheet", sheet, lane, at + cells.length + random.nextInt(3));
        for (int i = 0; i < cells.length; i++) {
            ask("put", sheet, at + i, cells[i]);
        }
    }

    private int[] someText() {
        int few = random.nextInt(10) == 0 ? random.nextInt(8) : 2 + random.nextInt(5);
        int high = random.nextInt(3) == 0 ? 3 : 10;
        StringBuilder text = new StringBuilder("m").append(random.nextInt(high));
        for (int k = 0; k < few; k++) {
            text.append(';').append("pul".charAt(random.nextInt(3)));
            text.append(random.nextInt(high)).append(random.nextInt(high));
        }
        if (random.nextInt(4) == 0) {
            int at = random.nextInt(text.length());
            text.setCharAt(at, "m;p5ul/:\u0000\u00ff".charAt(random.nextInt(10)));
        }
        if (random.nextInt(6) == 0) {
            text.setLength(random.nextInt(text.length() + 1));
        }
        return text.chars().toArray();
    }

    private void tellLine() {
        int[] cells = someText();
        int sheet = random.nextInt(4);
        int lane = random.nextInt(3);
        int at = random.nextInt(4);
        write(sheet, lane, at, cells);
        ask("line", sheet, lane, at, cells.length);
        ask("fault");
    }

    private void tellCalls() {
        int n = random.nextInt(6);
        int[] cells = new int[2 * n];
        int far = 0;
        for (int k = 0; k < n; k++) {
            far += 1 + random.nextInt(3);
            cells[2 * k] = random.nextInt(12) == 0 ? 5 + random.nextInt(3) : random.nextInt(3);
            cells[2 * k + 1] = random.nextInt(10) == 0 ? random.nextInt(20) - 2 : far;
        }
        int sheet = random.nextInt(4);
        int lane = random.nextInt(3);
        write(sheet, lane, 1, cells);
        for (int what = 0; what < 4; what++) {
            ask("calls", sheet, lane, 1, n, what);
        }
    }

    private int someNumber() {
        int dice = random.nextInt(30);
        if (dice == 0) {
            return FAR_OFF[random.nextInt(FAR_OFF.length)];
        }
        return dice < 22 ? random.nextInt(4) : dice < 27 ? random.nextInt(10) : random.nextInt(25) - 2;
    }

    private void anyCall() {
        int which = random.nextInt(NAMES.length);
        int[] a = new int[ARGUMENTS[which]];
        for (int k = 0; k < a.length; k++) {
            a[k] = someNumber();
        }
        ask(NAMES[which], a);
    }

    /** A READING that is so, mostly, that the sets by them stay of use. */
    private void trueReading() {
        if (!model.people.isEmpty()) {
            int p = random.nextInt(model.people.size());
            int far = random.nextInt(19);
            int on = model.may(model.people.get(p)) > far ? 1 : 0;
            ask("reading", p, far, random.nextInt(8) == 0 ? 1 - on : on);
            for (int q = 0; q < model.people.size(); q++) {
                ask("hastes", q);
                ask("rooms", q);
                ask("kinds", q);
            }
        }
    }

    private void askAll() {
        for (int p = 0; p < model.people.size(); p++) {
            ask("ofPerson", p, 6);
            ask("ofPerson", p, 7);
            ask("balance", p);
            ask("let", p, random.nextInt(6));
            ask("were", p, random.nextInt(10), random.nextInt(3));
            ask("odds", p, 0);
            ask("odds", p, 1);
        }
        for (int what = 0; what < 2; what++) {
            ask("cleared", what);
            ask("loss", what);
            ask("order", random.nextInt(6), what);
        }
    }

    private boolean run(long seed) {
        if (seed % 8 != 0) {
            tellLine();
        }
        while (made < CALLS) {
            int dice = random.nextInt(100);
            if (dice < 2) {
                tellLine();
            } else if (dice < 4) {
                tellCalls();
            } else if (dice < 7) {
                trueReading();
            } else if (dice < 10) {
                askAll();
            } else if (dice < 30) {
                ask(random.nextInt(4) == 0 ? "morning" : "go");
            } else {
                anyCall();
            }
        }
        if (wrong != 0) {
            System.out.println("seed " + seed + ":\n" + log);
        }
        return wrong == 0;
    }

    public static void main(String[] args) {
        int failed = 0;
        for (long seed = 0; seed < RUNS && failed == 0; seed++) {
            if (!new ModelTest(seed).run(seed)) {
                failed++;
            }
        }
        System.out.println(RUNS + " runs of " + CALLS + " calls, " + (failed == 0 ? "all as due" : "not as due"));
        if (failed != 0) {
            System.exit(1);
        }
    }
}
