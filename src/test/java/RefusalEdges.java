import java.util.ArrayList;
import java.util.List;
import java.util.function.ToLongFunction;

/** Edges of the terms and of promise 33: what is refused, what is a fault, what fault() tells, 512 calls. */
public final class RefusalEdges extends Edges {

    /** A call of the object that rich() makes (or, of those without a line, of a new one), and its answer. */
    private static final class Asked {
        final String name;
        final ToLongFunction<StepBack> call;
        final long answer;

        Asked(String name, long answer, ToLongFunction<StepBack> call) {
            this.name = name;
            this.call = call;
            this.answer = answer;
        }

        boolean namesFaults() {
            return List.of("line", "calls", "sheet", "put", "cell", "copy", "as").contains(name);
        }
    }

    private static List<Asked> refusedUnknown() {
        List<Asked> all = new ArrayList<>();
        for (int p : beside(4)) {
            all.add(new Asked("ofPerson", UNKNOWN, x -> x.ofPerson(p, 0)));
            all.add(new Asked("hurry", UNKNOWN, x -> x.hurry(p, 0)));
            all.add(new Asked("wall", UNKNOWN, x -> x.wall(p, 0)));
            all.add(new Asked("owes", UNKNOWN, x -> x.owes(p, 0)));
            all.add(new Asked("owes", UNKNOWN, x -> x.owes(0, p)));
            all.add(new Asked("pays", UNKNOWN, x -> x.pays(p, 0, 1)));
            all.add(new Asked("pays", UNKNOWN, x -> x.pays(1, p, 1)));
            all.add(new Asked("let", UNKNOWN, x -> x.let(p, 0)));
            all.add(new Asked("balance", UNKNOWN, x -> x.balance(p)));
            all.add(new Asked("were", UNKNOWN, x -> x.were(p, 0, 0)));
            all.add(new Asked("reading", UNKNOWN, x -> x.reading(p, 0, 0)));
            all.add(new Asked("hastes", UNKNOWN, x -> x.hastes(p)));
            all.add(new Asked("rooms", UNKNOWN, x -> x.rooms(p)));
            all.add(new Asked("kinds", UNKNOWN, x -> x.kinds(p)));
            all.add(new Asked("odds", LOST, x -> x.odds(p, 0)));
            all.add(new Asked("tell", UNKNOWN, x -> x.tell(p)));
            all.add(new Asked("hear", UNKNOWN, x -> x.hear(p)));
            all.add(new Asked("as", UNKNOWN, x -> x.as(p, 0)));
        }
        for (int k : beside(3)) {
            all.add(new Asked("line", UNKNOWN, x -> x.line(k, 0, 0, 22)));
            all.add(new Asked("calls", UNKNOWN, x -> x.calls(k, 0, 0, 0, 0)));
            all.add(new Asked("sheet", UNKNOWN, x -> x.sheet(k, 0, 1)));
            all.add(new Asked("lose", UNKNOWN, x -> x.lose(k)));
            all.add(new Asked("put", UNKNOWN, x -> x.put(k, 0, 1)));
            all.add(new Asked("cell", LOST, x -> x.cell(k, 0, 0)));
            all.add(new Asked("copy", UNKNOWN, x -> x.copy(k, 0, 1, 0, 1)));
            all.add(new Asked("copy", UNKNOWN, x -> x.copy(1, 0, k, 0, 1)));
        }
        all.add(new Asked("owes", UNKNOWN, x -> x.owes(1, 1)));
        all.add(new Asked("pays", UNKNOWN, x -> x.pays(1, 1, 1)));
        all.add(new Asked("calls", UNKNOWN, x -> x.calls(1, 1, 0, 1, 0)));
        return all;
    }

    private static List<Asked> refusedOutside() {
        List<Asked> all = new ArrayList<>();
        for (int v : new int[] {LOW, -1, 100, HIGH}) {
            all.add(new Asked("ofPerson", OUTSIDE, x -> x.ofPerson(0, v)));
            all.add(new Asked("hurry", OUTSIDE, x -> x.hurry(0, v)));
            all.add(new Asked("wall", OUTSIDE, x -> x.wall(0, v)));
            all.add(new Asked("lease", OUTSIDE, x -> x.lease(v)));
            all.add(new Asked("pays", OUTSIDE, x -> x.pays(1, 0, v)));
            all.add(new Asked("order", OUTSIDE, x -> x.order(v, 0)));
            all.add(new Asked("order", OUTSIDE, x -> x.order(0, v)));
            all.add(new Asked("loss", OUTSIDE, x -> x.loss(v)));
            all.add(new Asked("let", OUTSIDE, x -> x.let(0, v)));
            all.add(new Asked("cleared", OUTSIDE, x -> x.cleared(v)));
            all.add(new Asked("were", OUTSIDE, x -> x.were(0, v, 0)));
            all.add(new Asked("were", OUTSIDE, x -> x.were(0, 0, v)));
            all.add(new Asked("reading", OUTSIDE, x -> x.reading(0, v, 0)));
            all.add(new Asked("reading", OUTSIDE, x -> x.reading(0, 0, v)));
            all.add(new Asked("back", OUTSIDE, x -> x.back(v)));
            all.add(new Asked("odds", LOST, x -> x.odds(0, v)));
            all.add(new Asked("many", OUTSIDE, x -> x.many(v)));
            all.add(new Asked("line", OUTSIDE, x -> x.line(0, v, 0, 22)));
            all.add(new Asked("calls", OUTSIDE, x -> x.calls(0, v, 0, 0, 0)));
            all.add(new Asked("calls", OUTSIDE, x -> x.calls(0, 0, 0, v, 0)));
            all.add(new Asked("calls", OUTSIDE, x -> x.calls(0, 0, 0, 0, v)));
            all.add(new Asked("sheet", OUTSIDE, x -> x.sheet(0, v, 1)));
            all.add(new Asked("cell", LOST, x -> x.cell(0, 0, v)));
            all.add(new Asked("as", OUTSIDE, x -> x.as(0, v)));
        }
        all.add(new Asked("pays", OUTSIDE, x -> x.pays(1, 0, 0)));
        all.add(new Asked("back", OUTSIDE, x -> x.back(3)));
        all.add(new Asked("sheet", OUTSIDE, x -> x.sheet(0, 0, 61)));
        return all;
    }

    private static List<Asked> refusedByState() {
        return List.of(
            new Asked("pays", STATE, x -> x.pays(1, 0, 11)),
            new Asked("pays", STATE, x -> x.pays(0, 1, 1)),
            new Asked("let", STATE, x -> x.let(1, 0)));
    }

    private static List<Asked> refusedWithoutALine() {
        return List.of(
            new Asked("lease", STATE, x -> x.lease(5)),
            new Asked("go", STATE, x -> x.go()),
            new Asked("morning", STATE, x -> x.morning()),
            new Asked("calls", STATE, x -> x.calls(1, 1, 0, 1, 0)),
            new Asked("order", STATE, x -> x.order(0, 0)),
            new Asked("loss", STATE, x -> x.loss(0)),
            new Asked("cleared", STATE, x -> x.cleared(0)));
    }

    private static List<Asked> faulty() {
        return List.of(
            new Asked("line", NULL, x -> x.line(3, 0, 0, 22)),
            new Asked("line", CAST, x -> x.line(0, 1, 0, 22)),
            new Asked("line", SIZE, x -> x.line(0, 0, 0, -1)),
            new Asked("line", INDEX, x -> x.line(0, 0, 1, 22)),
            new Asked("line", INDEX, x -> x.line(0, 0, 23, 0)),
            new Asked("calls", NULL, x -> x.calls(3, 0, 0, 0, 0)),
            new Asked("calls", CAST, x -> x.calls(0, 2, 0, 0, 0)),
            new Asked("calls", INDEX, x -> x.calls(1, 1, 2, 1, 0)),
            new Asked("calls", INDEX, x -> x.calls(1, 1, 4, 0, 0)),
            new Asked("sheet", SIZE, x -> x.sheet(0, 0, -1)),
            new Asked("sheet", SIZE, x -> x.sheet(3, 2, LOW)),
            new Asked("put", NULL, x -> x.put(3, 0, 1)),
            new Asked("put", INDEX, x -> x.put(1, 3, 1)),
            new Asked("copy", NULL, x -> x.copy(3, 0, 1, 0, 1)),
            new Asked("copy", NULL, x -> x.copy(1, 0, 3, 0, 1)),
            new Asked("copy", CAST, x -> x.copy(1, 0, 2, 0, 1)),
            new Asked("copy", INDEX, x -> x.copy(1, 0, 1, 1, 3)),
            new Asked("copy", INDEX, x -> x.copy(1, 1, 1, 0, 3)),
            new Asked("copy", INDEX, x -> x.copy(1, 0, 1, 0, -1)),
            new Asked("as", CAST, x -> x.as(0, 1)),
            new Asked("as", CAST, x -> x.as(1, 2)));
    }

    private static List<Asked> goodOfThoseThatNameFaults() {
        return List.of(
            new Asked("line", 5, x -> x.line(0, 0, 0, 22)),
            new Asked("line", -100, x -> x.line(0, 0, 22, 0)),
            new Asked("line", -109, x -> x.line(0, 0, 0, 9)),
            new Asked("calls", 0, x -> x.calls(1, 1, 3, 0, 0)),
            new Asked("calls", NONE, x -> x.calls(1, 1, 3, 0, 1)),
            new Asked("calls", -100, x -> x.calls(2, 2, 2, 1, 0)),
            new Asked("sheet", 1, x -> x.sheet(3, 0, 0)),
            new Asked("put", 1, x -> x.put(1, 2, 4)),
            new Asked("cell", 9, x -> x.cell(1, 2, 1)),
            new Asked("copy", 0, x -> x.copy(1, 3, 1, 3, 0)),
            new Asked("as", 1, x -> x.as(2, 1)));
    }

    private static List<Asked> goodOfThoseThatNameNone() {
        return List.of(
            new Asked("ofPerson", 5, x -> x.ofPerson(0, 1)),
            new Asked("hurry", 5, x -> x.hurry(0, 6)),
            new Asked("wall", 3, x -> x.wall(0, 4)),
            new Asked("lease", 2, x -> x.lease(3)),
            new Asked("go", 0, x -> x.go()),
            new Asked("morning", 1, x -> x.morning()),
            new Asked("owes", 10, x -> x.owes(1, 0)),
            new Asked("pays", 7, x -> x.pays(1, 0, 3)),
            new Asked("order", 0, x -> x.order(0, 0)),
            new Asked("order", NONE, x -> x.order(4, 0)),
            new Asked("loss", 37, x -> x.loss(0)),
            new Asked("let", 0, x -> x.let(0, 5)),
            new Asked("balance", 9990, x -> x.balance(1)),
            new Asked("cleared", 10, x -> x.cleared(0)),
            new Asked("were", 0, x -> x.were(0, 0, 0)),
            new Asked("reading", 2, x -> x.reading(0, 0, 0)),
            new Asked("back", 1, x -> x.back(1)),
            new Asked("hastes", 992, x -> x.hastes(0)),
            new Asked("rooms", 1016, x -> x.rooms(0)),
            new Asked("kinds", 3, x -> x.kinds(0)),
            new Asked("odds", 1, x -> x.odds(4, 0)),
            new Asked("lose", 1, x -> x.lose(0)),
            new Asked("tell", 5, x -> x.tell(0)),
            new Asked("hear", 0, x -> x.hear(0)),
            new Asked("trace", 91327, x -> x.trace()),
            new Asked("many", 5, x -> x.many(0)));
    }

    /** Asks it behind a fault (NULL); what the object shows then is as it was, and fault() as due. */
    private static void dueChangesNothing(StepBack x, Asked asked, String before, int fault) {
        due("a fault", x.put(3, 0, 0), NULL);
        due(asked.name, asked.call.applyAsLong(x), asked.answer);
        due("fault() behind " + asked.name, x.fault(), fault);
        dueSame(asked.name, shown(x), before);
    }

    private static void refused(List<Asked> all) {
        String before = shown(rich());
        for (Asked asked : all) {
            dueChangesNothing(rich(), asked, before, asked.namesFaults() ? 0 : 1);
        }
    }

    private static void unknownChangesNothing() {
        refused(refusedUnknown());
    }

    private static void outsideChangesNothing() {
        refused(refusedOutside());
    }

    private static void stateChangesNothing() {
        refused(refusedByState());
    }

    private static StepBack withoutALine() {
        StepBack x = new StepBack();
        fill(x, 1, SHORTS, 7, -8, 9);
        return x;
    }

    private static void stateWithoutALineChangesNothing() {
        String before = shown(withoutALine());
        for (Asked asked : refusedWithoutALine()) {
            dueChangesNothing(withoutALine(), asked, before, asked.namesFaults() ? 0 : 1);
        }
    }

    private static StepBack full() {
        StepBack x = rich();
        for (int k = 2; k < 8; k++) {
            due("reading", x.reading(4, 18, 0), k);
        }
        return x;
    }

    private static void fullChangesNothing() {
        dueChangesNothing(full(), new Asked("reading", FULL, x -> x.reading(0, 0, 0)), shown(full()), 1);
    }

    private static void faultsChangeNothing() {
        String before = shown(rich());
        for (Asked asked : faulty()) {
            dueChangesNothing(rich(), asked, before, (int) (-10 - asked.answer));
        }
    }

    /** cell answers LOST for each of them, and fault() alone tells which. */
    private static void faultsOfCellAreLost() {
        String before = shown(rich());
        dueChangesNothing(rich(), new Asked("cell", LOST, x -> x.cell(3, 0, 0)), before, 1);
        dueChangesNothing(rich(), new Asked("cell", LOST, x -> x.cell(1, 0, 0)), before, 2);
        dueChangesNothing(rich(), new Asked("cell", LOST, x -> x.cell(1, 3, 1)), before, 3);
    }

    private static void faultIs0AheadOfAny() {
        StepBack x = new StepBack();
        due("at first", x.fault(), 0);
        x.go();
        x.lose(0);
        x.ofPerson(0, 0);
        due("behind calls that name none", x.fault(), 0);
    }

    private static void faultBehindACallThatComesToNone() {
        for (Asked asked : goodOfThoseThatNameFaults()) {
            StepBack x = rich();
            due("a fault", x.put(3, 0, 0), NULL);
            due(asked.name, asked.call.applyAsLong(x), asked.answer);
            due("fault() behind " + asked.name, x.fault(), 0);
        }
    }

    private static void faultBehindACallThatNamesNone() {
        for (Asked asked : goodOfThoseThatNameNone()) {
            for (int i = 0; i < 2; i++) {
                StepBack x = rich();
                due("a fault", i == 0 ? x.put(3, 0, 0) : x.as(0, 2), i == 0 ? NULL : CAST);
                long got = asked.call.applyAsLong(x);
                due(asked.name, got, asked.answer);
                due("fault() behind " + asked.name, x.fault(), i + 1);
            }
        }
    }

    private static void faultIsTheLatest() {
        StepBack x = rich();
        due("null", x.put(3, 0, 0), NULL);
        due("index", x.put(1, 3, 0), INDEX);
        due("fault", x.fault(), 3);
        due("asked again", x.fault(), 3);
        due("size", x.sheet(1, 0, -1), SIZE);
        due("fault", x.fault(), 4);
        due("cast", x.as(0, 1), CAST);
        due("fault", x.fault(), 2);
        due("refused", x.as(9, 9), UNKNOWN);
        due("fault", x.fault(), 0);
        due("asked again", x.fault(), 0);
    }

    /** The 512th call is answered as the first is; all the steps owed by then are told. */
    private static void fiveHundredAndTwelveCalls() {
        StepBack x = lineOf("m9;u99;u99");
        int calls = 1 + 10 + 1;
        int goes = 0;
        while (calls < 508) {
            due("go", x.go(), 1);
            due("morning", x.morning(), 1);
            calls += 2;
            goes++;
        }
        due("owes", x.owes(1, 0), 18 * goes);
        due("mornings", x.many(3), goes);
        due("balance", x.balance(1), 10000 - 18 * goes);
        due("the last of 512", x.balance(0), 10000 + 18 * goes);
        due("calls", calls + 4, 512);
    }

    public static void main(String[] args) {
        unknownChangesNothing();
        outsideChangesNothing();
        stateChangesNothing();
        stateWithoutALineChangesNothing();
        fullChangesNothing();
        faultsChangeNothing();
        faultsOfCellAreLost();
        faultIs0AheadOfAny();
        faultBehindACallThatComesToNone();
        faultBehindACallThatNamesNone();
        faultIsTheLatest();
        fiveHundredAndTwelveCalls();
        end();
    }
}
