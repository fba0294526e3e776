/** Every promise by hand: ordinary inputs, the edges that the document names, wrong inputs. */
public final class PromiseTest {
    private static final int UNKNOWN = -1, OUTSIDE = -2, STATE = -3, FULL = -4, NONE = -9;
    private static final int NULL = -11, CAST = -12, INDEX = -13, SIZE = -14;
    private static final long LOST = Long.MIN_VALUE;
    private static final int LOW = Integer.MIN_VALUE, HIGH = Integer.MAX_VALUE;
    private static final String FIVE = "m2;p53;u47;l91;p80;u20";

    private static int asked = 0;
    private static int wrong = 0;

    private static void due(String call, long got, long want) {
        asked++;
        if (got != want) {
            wrong++;
            System.out.println(call + " answered " + got + ", due is " + want);
        }
    }

    private static int take(StepBack x, int sheet, int lane, String text) {
        x.sheet(sheet, lane, text.length());
        for (int i = 0; i < text.length(); i++) {
            x.put(sheet, i, text.charAt(i));
        }
        return x.line(sheet, lane, 0, text.length());
    }

    private static StepBack lineOf(String text) {
        StepBack x = new StepBack();
        due("line of " + text, take(x, 0, 0, text), (text.length() - 2) / 4);
        return x;
    }

    private static void told(StepBack x, int... pairs) {
        x.sheet(1, 2, pairs.length);
        for (int i = 0; i < pairs.length; i++) {
            x.put(1, i, pairs[i]);
        }
    }

    /** What 0, 1, 2, 3 answer for the pairs. */
    private static void dueCalls(StepBack x, int far, int first, int head, int on, int... pairs) {
        told(x, pairs);
        int n = pairs.length / 2;
        due("calls far", x.calls(1, 2, 0, n, 0), far);
        due("calls first wrong", x.calls(1, 2, 0, n, 1), first);
        due("calls head", x.calls(1, 2, 0, n, 2), head);
        due("calls on", x.calls(1, 2, 0, n, 3), on);
    }

    private static void dueOrder(StepBack x, int... whoAndSteps) {
        for (int k = 0; k < 6; k++) {
            boolean is = 2 * k < whoAndSteps.length;
            due("order(" + k + ", 0)", x.order(k, 0), is ? whoAndSteps[2 * k] : NONE);
            due("order(" + k + ", 1)", x.order(k, 1), is ? whoAndSteps[2 * k + 1] : NONE);
        }
    }

    private static void constants() {
        due("UNKNOWN", StepBack.UNKNOWN, UNKNOWN);
        due("OUTSIDE", StepBack.OUTSIDE, OUTSIDE);
        due("STATE", StepBack.STATE, STATE);
        due("FULL", StepBack.FULL, FULL);
        due("NONE", StepBack.NONE, NONE);
        due("LOST", StepBack.LOST, LOST);
    }

    private static void promise1NewObject() {
        StepBack x = new StepBack();
        for (int what = 0; what <= 4; what++) {
            due("new many", x.many(what), 0);
        }
        due("new trace", x.trace(), 0);
        due("new fault", x.fault(), 0);
        for (int k = 0; k < 4; k++) {
            due("new put", x.put(k, 0, 1), NULL);
            due("new lose", x.lose(k), 0);
        }
        due("new person", x.ofPerson(0, 0), UNKNOWN);
        due("new back", x.back(0), 0);
        due("new go", x.go(), STATE);
    }

    private static void dueFault(String text, int place) {
        StepBack x = lineOf("m3;p11;p22");
        x.go();
        x.morning();
        x.reading(0, 0, 1);
        due("line of " + text, take(x, 0, 0, text), -100 - place);
        due("no fault by a text", x.fault(), 0);
        due("people stay", x.many(0), 2);
        due("ground stays", x.many(1), 3);
        due("morning stays", x.many(3), 1);
        due("readings stay", x.many(4), 1);
        due("debts stay", x.owes(1, 0), 2);
    }

    private static void promise2Texts() {
        dueFault("", 0);
        dueFault("m", 1);
        dueFault("m2", 2);
        dueFault("m2;", 3);
        dueFault("m2;p", 4);
        dueFault("m2;p5", 5);
        dueFault("m2;p53", 6);
        dueFault("m2;p53;", 7);
        dueFault("m2;p53;u4", 9);
        dueFault("m2;p53;u47;", 11);
        dueFault("x2;p53;u47", 0);
        dueFault("mm;p53;u47", 1);
        dueFault("m:;p53;u47", 1);
        dueFault("m/;p53;u47", 1);
        dueFault("m22p53;u47", 2);
        dueFault("m2;m53;u47", 3);
        dueFault("m2;ppp;u47", 4);
        dueFault("m2;p5;;u47", 5);
        dueFault("m2;p53pu47", 6);
        dueFault("m2;p53;u471", 10);
        dueFault("m0;p00;p00;p00;p00;p00;p00;", 26);
        dueFault("m0;p00;p00;p00;p00;p00;p00;p00", 26);
        dueFault("m0;p00;p00;p00;p00;p00;p00;x", 26);
        dueFault("m0;p00;p00;p00;p00;p00;p00x", 26);
        dueFault("m0;p00;p00;p00;p00;p00;p0", 25);
        lineOf("m0;p00;p00");
        lineOf("m9;l99;u99;p99;p99;p99;p99");
    }

    private static void promise2Line() {
        StepBack x = new StepBack();
        String text = "..m2;p53;l47.";
        x.sheet(3, 1, text.length());
        for (int i = 0; i < text.length(); i++) {
            x.put(3, i, text.charAt(i));
        }
        due("line from 2 on", x.line(3, 1, 2, 10), 2);
        due("ground", x.many(1), 2);
        due("kind", x.ofPerson(1, 0), 2);
        due("a place is counted from i on", x.line(3, 1, 2, 11), -110);
        due("no cells", x.line(3, 1, 13, 0), -100);
        due("line sheet", x.line(4, 1, 2, 10), UNKNOWN);
        due("line sheet", x.line(-1, 9, 2, -1), UNKNOWN);
        due("line lane", x.line(3, 3, 2, 10), OUTSIDE);
        due("line lane", x.line(3, -1, 2, -1), OUTSIDE);
        due("line cast", x.line(3, 2, 2, -1), CAST);
        due("fault", x.fault(), 2);
        due("line null", x.line(0, 2, 2, -1), NULL);
        due("fault", x.fault(), 1);
        due("line size", x.line(3, 1, 99, -1), SIZE);
        due("fault", x.fault(), 4);
        due("line index", x.line(3, 1, 4, 10), INDEX);
        due("fault", x.fault(), 3);
        due("line index", x.line(3, 1, -1, 10), INDEX);
        due("line index of none", x.line(3, 1, 14, 0), INDEX);
        due("line index of none", x.line(3, 1, -1, 0), INDEX);
        due("line index", x.line(3, 1, 2, HIGH), INDEX);
        due("line index", x.line(3, 1, HIGH, HIGH), INDEX);
        due("line size", x.line(3, 1, 2, LOW), SIZE);
        due("a refusal has no fault", x.line(9, 1, 2, 10) * 10 + x.fault(), -10);
        due("line again", x.line(3, 1, 2, 10), 2);
        due("fault", x.fault(), 0);
    }

    private static void promise2MakesAnew() {
        StepBack x = lineOf(FIVE);
        x.go();
        x.reading(0, 0, 1);
        x.morning();
        x.go();
        x.tell(0);
        due("shorter line", take(x, 0, 0, "m9;p11;l99"), 2);
        due("people", x.many(0), 2);
        due("ground", x.many(1), 9);
        due("there", x.many(2), 2);
        due("morning", x.many(3), 0);
        due("readings", x.many(4), 0);
        due("no third", x.ofPerson(2, 0), UNKNOWN);
        due("owes", x.ofPerson(1, 6), 0);
        due("is owed", x.ofPerson(0, 7), 0);
        due("cleared", x.cleared(0), 0);
        due("trace stays", x.trace(), 1);
        x.hurry(0, 9);
        due("0 goes", x.go(), 0);
        due("0 owes", x.owes(0, 1), 5);
        due("longer line", take(x, 0, 0, FIVE), 5);
        due("0 owes nothing", x.owes(0, 1), 0);
        due("balance", x.balance(1), 10000);
    }

    private static void promise3OfPerson() {
        StepBack x = lineOf("m3;p94;u94;l94;l73;u20;p50");
        int[][] due = {{0, 9, 4, 9, 7, 1, 0, 0}, {1, 9, 4, 18, 7, 1, 0, 0}, {2, 9, 4, 4, 4, 1, 0, 0},
            {2, 7, 3, 3, 3, 1, 0, 0}, {1, 2, 0, 4, 3, 1, 0, 0}, {0, 5, 0, 5, 3, 1, 0, 0}};
        for (int p = 0; p < 6; p++) {
            for (int what = 0; what < 8; what++) {
                due("ofPerson(" + p + ", " + what + ")", x.ofPerson(p, what), due[p][what]);
            }
            due("ofPerson what", x.ofPerson(p, 8), OUTSIDE);
            due("ofPerson what", x.ofPerson(p, -1), OUTSIDE);
        }
        due("ofPerson p", x.ofPerson(6, 0), UNKNOWN);
        due("ofPerson p", x.ofPerson(-1, 8), UNKNOWN);
        // 0, 1, 2 step to 3, then 0 and 1 by turns to 7.
        due("go", x.go(), 1);
        due("not there", x.ofPerson(1, 5), 0);
        due("owes", x.ofPerson(1, 6), 7);
        due("is owed", x.ofPerson(0, 7), 7);
        due("far as one may", lineOf("m9;u99;p00").ofPerson(0, 4), 18);
    }

    private static void promises4To6Changes() {
        StepBack x = lineOf("m2;p53;u47");
        due("hurry", x.hurry(0, 9), 5);
        due("hurry", x.hurry(0, 0), 9);
        due("haste", x.ofPerson(0, 1), 0);
        due("hurry p", x.hurry(2, 10), UNKNOWN);
        due("hurry p", x.hurry(-1, 0), UNKNOWN);
        due("hurry v", x.hurry(0, 10), OUTSIDE);
        due("hurry v", x.hurry(0, -1), OUTSIDE);
        due("haste stays", x.ofPerson(0, 1), 0);
        due("wall", x.wall(1, 0), 7);
        due("wall", x.wall(1, 9), 0);
        due("room", x.ofPerson(1, 2), 9);
        due("other's room", x.ofPerson(0, 2), 3);
        due("wall p", x.wall(2, 10), UNKNOWN);
        due("wall p", x.wall(-1, 0), UNKNOWN);
        due("wall v", x.wall(1, 10), OUTSIDE);
        due("wall v", x.wall(1, -1), OUTSIDE);
        due("room stays", x.ofPerson(1, 2), 9);
        due("lease", x.lease(9), 2);
        due("lease", x.lease(0), 9);
        due("ground", x.many(1), 0);
        due("lease v", x.lease(10), OUTSIDE);
        due("lease v", x.lease(-1), OUTSIDE);
        due("lease v ahead of state", new StepBack().lease(10), OUTSIDE);
        due("lease state", new StepBack().lease(9), STATE);
    }

    private static void promises7And8Go() {
        StepBack x = lineOf(FIVE);
        due("go", x.go(), 1);
        due("owes", x.owes(1, 0), 5);
        due("go", x.go(), 0);
        due("owes", x.owes(0, 2), 3);
        due("go", x.go(), 2);
        due("owes", x.owes(2, 3), 3);
        due("go", x.go(), 4);
        due("owes", x.owes(4, 3), 2);
        due("go", x.go(), 3);
        due("owes nobody", x.ofPerson(3, 6), 0);
        due("go", x.go(), STATE);
        due("there", x.many(2), 0);
        due("morning", x.morning(), 5);
        due("morning", x.morning(), 0);
        due("which", x.many(3), 2);
        due("there", x.many(2), 5);
        due("go", x.go(), 1);
        due("owes more", x.owes(1, 0), 10);
        due("morning", x.morning(), 1);
        due("morning state", new StepBack().morning(), STATE);
        due("go state", new StepBack().go(), STATE);
        StepBack still = lineOf("m0;p00;p00;p00");
        due("the least goes", still.go(), 0);
        due("the least goes", still.go(), 1);
        due("nothing is owed", still.cleared(0), 0);
    }

    private static void promises9And10Owes() {
        StepBack x = lineOf(FIVE);
        x.go();
        due("owes", x.owes(1, 0), 5);
        due("owes the other way", x.owes(0, 1), 0);
        due("owes itself", x.owes(1, 1), UNKNOWN);
        due("owes p", x.owes(5, 0), UNKNOWN);
        due("owes other", x.owes(0, -1), UNKNOWN);
        due("pays too much", x.pays(1, 0, 6), STATE);
        due("pays the other way", x.pays(0, 1, 1), STATE);
        due("pays another", x.pays(1, 2, 1), STATE);
        due("pays n", x.pays(1, 0, 0), OUTSIDE);
        due("pays n", x.pays(1, 0, -1), OUTSIDE);
        due("pays n", x.pays(1, 0, 100), OUTSIDE);
        due("pays 99", x.pays(1, 0, 99), STATE);
        due("pays itself", x.pays(1, 1, 0), UNKNOWN);
        due("pays p", x.pays(5, 0, 0), UNKNOWN);
        due("pays other", x.pays(1, -1, 0), UNKNOWN);
        due("pays", x.pays(1, 0, 2), 3);
        due("owes", x.owes(1, 0), 3);
        due("owed", x.ofPerson(0, 7), 3);
        due("pays", x.pays(1, 0, 3), 0);
        due("pays", x.pays(1, 0, 1), STATE);
    }

    private static void paysIsOfThatOne() {
        StepBack x = lineOf("m9;u99;p59;p69");
        due("go", x.go(), 0);
        int toFirst = x.owes(0, 1);
        int toSecond = x.owes(0, 2);
        x.hurry(1, toFirst == 0 ? 9 : 0);
        x.hurry(2, toSecond == 0 ? 9 : 0);
        x.morning();
        due("go", x.go(), 0);
        due("owes both", (x.owes(0, 1) > 0 ? 1 : 0) + (x.owes(0, 2) > 0 ? 1 : 0), 2);
        int before = x.owes(0, 1);
        due("pays one of two", x.pays(0, 1, 1), before - 1);
    }

    private static void promise11Calls() {
        StepBack x = lineOf(FIVE);
        dueCalls(x, 0, NONE, NONE, 5);
        dueCalls(x, 1, NONE, 0, 4, 0, 1);
        dueCalls(x, 3, NONE, 0, 1, 0, 1, 1, 2, 0, 3);
        dueCalls(x, 5, NONE, 0, 1, 0, 5);
        dueCalls(x, 8, NONE, 1, 0, 1, 8);
        dueCalls(x, 4, NONE, 0, 1, 0, 3, 0, 4);
        dueCalls(x, -100, 0, -100, -100, 0, 0);
        dueCalls(x, -100, 0, -100, -100, 0, -5);
        dueCalls(x, -100, 0, -100, -100, 0, 6);
        dueCalls(x, -101, 1, -101, -101, 0, 2, 1, 2);
        dueCalls(x, -102, 2, -102, -102, 0, 1, 1, 2, 2, 4, 0, 3);
        dueCalls(x, UNKNOWN, UNKNOWN, UNKNOWN, UNKNOWN, 0, 1, 5, 2);
        dueCalls(x, UNKNOWN, UNKNOWN, UNKNOWN, UNKNOWN, -1, 2);
        due("go", x.go(), 1);
        dueCalls(x, 0, NONE, NONE, 4);
        dueCalls(x, -100, 0, -100, -100, 1, 1);
        dueCalls(x, 2, NONE, 2, 1, 2, 2);
        due("nothing is changed", x.many(2), 4);
    }

    /** One pair that names nobody refuses the row, wherever it stands and whatever is wrong ahead of it. */
    private static void promise11NamesNobody() {
        StepBack x = lineOf(FIVE);
        dueUnknownCalls(x, 0, 0, 5, 2);
        dueUnknownCalls(x, 5, 2, 0, 0);
        dueUnknownCalls(x, 0, 9, 0, 1, -1, 2);
        dueUnknownCalls(x, 0, 2, 1, 2, 0, 3, HIGH, 0);
        dueUnknownCalls(x, 0, 0, LOW, 0, 0, 1);
        dueUnknownCalls(x, 0, 0, 32, 1);
        due("go", x.go(), 1);
        dueUnknownCalls(x, 1, 1, 5, 2);
        dueCalls(x, -100, 0, -100, -100, 1, 1, 4, 2);
        told(x, 0, 0, 5, 2);
        due("the pair that names nobody is not told", x.calls(1, 2, 0, 1, 0), -100);
        due("the pair that names nobody is not told", x.calls(1, 2, 0, 1, 1), 0);
        due("index ahead of it", x.calls(1, 2, 0, 20, 0), INDEX);
        due("fault", x.fault(), 3);
        due("refused", x.calls(1, 2, 0, 2, 1), UNKNOWN);
        due("a refusal has no fault", x.fault(), 0);
        due("nothing is changed", x.many(2), 4);
    }

    private static void dueUnknownCalls(StepBack x, int... pairs) {
        dueCalls(x, UNKNOWN, UNKNOWN, UNKNOWN, UNKNOWN, pairs);
    }

    private static void promise11Refusals() {
        StepBack x = lineOf("m2;p53;u47");
        told(x, 0, 1, 1, 2, 0, 3);
        due("from i on", x.calls(1, 2, 2, 2, 0), 3);
        due("from i on", x.calls(1, 2, 2, 2, 2), 0);
        due("calls sheet", x.calls(4, 3, 0, 21, 4), UNKNOWN);
        due("calls sheet", x.calls(-1, 2, 0, 1, 0), UNKNOWN);
        due("calls lane", x.calls(1, 3, 0, 1, 0), OUTSIDE);
        due("calls lane", x.calls(1, -1, 0, 1, 0), OUTSIDE);
        due("calls n", x.calls(1, 2, 0, 21, 0), OUTSIDE);
        due("calls n", x.calls(1, 2, 0, -1, 0), OUTSIDE);
        due("calls what", x.calls(1, 2, 0, 1, 4), OUTSIDE);
        due("calls what", x.calls(1, 2, 0, 1, -1), OUTSIDE);
        due("a refusal has no fault", x.fault(), 0);
        due("calls cast", x.calls(1, 1, 0, 20, 0), CAST);
        due("fault", x.fault(), 2);
        due("calls null", x.calls(2, 1, 0, 20, 0), NULL);
        due("fault", x.fault(), 1);
        due("calls index", x.calls(1, 2, 1, 3, 0), INDEX);
        due("fault", x.fault(), 3);
        due("calls index", x.calls(1, 2, -1, 1, 0), INDEX);
        due("calls index", x.calls(1, 2, HIGH, 20, 0), INDEX);
        due("calls none at the end", x.calls(1, 2, 6, 0, 0), 0);
        due("no fault", x.fault(), 0);
        due("calls none past the end", x.calls(1, 2, 7, 0, 0), INDEX);
        StepBack none = new StepBack();
        told(none, 0, 1);
        due("calls without a line", none.calls(1, 2, 0, 1, 0), STATE);
        due("calls index ahead of state", none.calls(1, 2, 1, 1, 0), INDEX);
        none.sheet(1, 0, 40);
        due("twenty pairs", none.calls(1, 0, 0, 20, 0), STATE);
    }

    private static void promise12Order() {
        StepBack x = lineOf(FIVE);
        dueOrder(x, 1, 5, 0, 3, 2, 3, 4, 2, 3, 1);
        due("order changes nothing", x.many(2), 5);
        x.go();
        dueOrder(x, 0, 3, 2, 3, 4, 2, 3, 1);
        for (int k = 0; k < 4; k++) {
            x.go();
        }
        dueOrder(x);
        due("order k", x.order(6, 0), OUTSIDE);
        due("order k", x.order(-1, 0), OUTSIDE);
        due("order what", x.order(0, 2), OUTSIDE);
        due("order what", x.order(0, -1), OUTSIDE);
        due("order outside ahead of state", new StepBack().order(6, 0), OUTSIDE);
        due("order state", new StepBack().order(0, 0), STATE);
        dueOrder(lineOf("m0;p00;p00;p00;p00;p00;p00"), 0, 0, 1, 0, 2, 0, 3, 0, 4, 0, 5, 0);
    }

    private static void promise13Loss() {
        StepBack x = lineOf(FIVE);
        due("loss", x.loss(0), 61);
        due("least", x.loss(1), 38);
        x.go();
        // 0, 2, 4, 3 by 5, 9, 2, 8; at best 9, 8, 5, 2.
        due("loss", x.loss(0), 9 + 4 + 24);
        due("least", x.loss(1), 8 + 10 + 6);
        due("loss what", x.loss(2), OUTSIDE);
        due("loss what", x.loss(-1), OUTSIDE);
        due("loss outside ahead of state", new StepBack().loss(2), OUTSIDE);
        due("loss state", new StepBack().loss(0), STATE);
        for (int k = 0; k < 4; k++) {
            x.go();
        }
        due("loss of nobody", x.loss(0), 0);
        due("least of nobody", x.loss(1), 0);
    }

    private static void promise14Let() {
        StepBack x = lineOf(FIVE);
        int[][] due = {{NONE, 1, 1, 1, 0, 0}, {3, 1, 1, 1, 0, 0}, {NONE, NONE, 1, 1, 0, 0},
            {NONE, 3, 2, 1, 0, 0}, {NONE, NONE, 1, 0, 0, 0}};
        for (int p = 0; p < 5; p++) {
            for (int k = 0; k < 6; k++) {
                due("let(" + p + ", " + k + ")", x.let(p, k), due[p][k]);
            }
        }
        due("room stays", x.ofPerson(0, 2), 3);
        due("let p", x.let(5, 6), UNKNOWN);
        due("let p", x.let(-1, 0), UNKNOWN);
        due("let k", x.let(0, 6), OUTSIDE);
        due("let k", x.let(0, -1), OUTSIDE);
        x.go();
        due("let state", x.let(1, 0), STATE);
        due("let k ahead of state", x.let(1, 6), OUTSIDE);
        due("let by nine alone", lineOf("m0;p99;p99").let(1, 0), NONE);
        due("let by nine alone", lineOf("m0;p98;p99").let(0, 0), 9);
    }

    private static void promises15And16Clearing() {
        StepBack x = lineOf(FIVE);
        due("balance", x.balance(0), 10000);
        due("steps", x.cleared(0), 0);
        due("payments", x.cleared(1), 0);
        x.go();
        due("balance", x.balance(0), 10005);
        due("balance", x.balance(1), 9995);
        due("steps", x.cleared(0), 5);
        due("payments", x.cleared(1), 1);
        x.go();
        due("balance", x.balance(0), 10002);
        due("balance", x.balance(2), 10003);
        due("steps", x.cleared(0), 5);
        due("payments", x.cleared(1), 2);
        due("balance p", x.balance(5), UNKNOWN);
        due("balance p", x.balance(-1), UNKNOWN);
        due("cleared what", x.cleared(2), OUTSIDE);
        due("cleared what", x.cleared(-1), OUTSIDE);
        due("cleared outside ahead of state", new StepBack().cleared(2), OUTSIDE);
        due("cleared state", new StepBack().cleared(0), STATE);
    }

    /** Two that owe alike, to two others: two payments do, though four BALANCES are not 0. */
    private static void clearedByGroups() {
        StepBack x = lineOf("m9;p33;p33;p33;p33");
        due("go", x.go(), 2);
        due("owes", x.owes(2, 1), 3);
        due("go", x.go(), 3);
        due("owes", x.owes(3, 1), 3);
        due("go", x.go(), 0);
        due("owes", x.owes(0, 1), 3);
        due("balance", x.balance(1), 10009);
        due("steps", x.cleared(0), 9);
        due("payments", x.cleared(1), 3);
        StepBack two = lineOf("m0;p22;p22;p00;p00");
        due("go", two.go(), 1);
        due("owes", two.owes(1, 0), 2);
        two.hurry(0, 0);
        two.hurry(2, 2);
        two.wall(2, 2);
        two.hurry(3, 2);
        two.wall(3, 2);
        due("go", two.go(), 3);
        due("owes", two.owes(3, 2), 2);
        due("steps", two.cleared(0), 4);
        due("payments", two.cleared(1), 2);
    }

    private static void promise17Were() {
        StepBack x = lineOf(FIVE);
        due("were none", x.were(0, 0, 0), 0);
        due("were none", x.were(0, 0, 1), NONE);
        due("were none", x.were(0, 0, 2), NONE);
        due("were alone", x.were(4, 1, 0), 1);
        due("were alone", x.were(4, 1, 1), 16);
        due("were", x.were(1, 5, 0), 4);
        due("were", x.were(1, 5, 1), 7);
        due("were", x.were(1, 5, 2), 7);
        due("were", x.were(1, 6, 0), 4);
        due("were", x.were(1, 6, 1), 3);
        x.go();
        due("those who are there do not matter", x.were(1, 5, 0), 4);
        due("were p", x.were(5, 19, 0), UNKNOWN);
        due("were p", x.were(-1, 0, 0), UNKNOWN);
        due("were v", x.were(0, 19, 0), OUTSIDE);
        due("were v", x.were(0, -1, 0), OUTSIDE);
        due("were v", x.were(0, 18, 0), 0);
        due("were what", x.were(0, 0, 3), OUTSIDE);
        due("were what", x.were(0, 0, -1), OUTSIDE);
        // 0 goes to 3 past either of the others, or both, as they stop at 2.
        StepBack either = lineOf("m9;p90;p20;p20");
        due("were with either", either.were(0, 3, 0), 3);
        due("the least of them", either.were(0, 3, 1), 3);
        due("in all of them", either.were(0, 3, 2), 1);
        StepBack still = lineOf("m0;p00;p00;p00");
        due("at no steps", still.were(1, 0, 0), 2);
        due("at no steps", still.were(1, 0, 1), 2);
        due("at no steps", still.were(1, 0, 2), 2);
        due("at no steps", still.were(0, 0, 0), 4);
    }

    private static void promises18And19Readings() {
        StepBack x = lineOf(FIVE);
        due("reading p", x.reading(5, 19, 2), UNKNOWN);
        due("reading p", x.reading(-1, 0, 0), UNKNOWN);
        due("reading far", x.reading(0, 19, 0), OUTSIDE);
        due("reading far", x.reading(0, -1, 0), OUTSIDE);
        due("reading on", x.reading(0, 0, 2), OUTSIDE);
        due("reading on", x.reading(0, 0, -1), OUTSIDE);
        for (int k = 0; k < 8; k++) {
            due("reading", x.reading(k % 5, 18, 0), k);
        }
        due("reading full", x.reading(0, 0, 0), FULL);
        due("outside ahead of full", x.reading(0, 19, 0), OUTSIDE);
        due("many", x.many(4), 8);
        due("back", x.back(9), OUTSIDE);
        due("back", x.back(-1), OUTSIDE);
        due("back", x.back(0), 8);
        due("back", x.back(3), 5);
        due("reading", x.reading(0, 0, 1), 5);
        due("back", x.back(6), 0);
        due("back", x.back(1), OUTSIDE);
        due("back without a line", new StepBack().back(0), 0);
        due("back without a line", new StepBack().back(1), OUTSIDE);
    }

    private static void promises20To22Sets() {
        StepBack x = lineOf(FIVE);
        due("hastes", x.hastes(0), 1023);
        due("rooms", x.rooms(0), 1023);
        due("kinds", x.kinds(0), 7);
        x.reading(0, 4, 1);
        due("hastes", x.hastes(0), 992);
        due("rooms", x.rooms(0), 1016);
        due("kinds", x.kinds(0), 3);
        due("hastes of another", x.hastes(1), 1023);
        x.reading(2, 3, 0);
        due("hastes", x.hastes(2), 1023);
        x.reading(2, 1, 0);
        due("hastes", x.hastes(2), 15);
        due("rooms", x.rooms(2), 0);
        due("kinds", x.kinds(2), 0);
        due("all readings, those of others too", x.hastes(0), 0);
        due("all readings, those of others too", x.rooms(1), 0);
        due("all readings, those of others too", x.kinds(0), 0);
        due("back", x.back(1), 2);
        due("hastes", x.hastes(0), 992);
        x.reading(4, 1, 1);
        due("kinds", x.kinds(4), 3);
        due("rooms", x.rooms(4), 1023);
        x.lease(1);
        due("nobody is as read", x.hastes(4), 0);
        for (int p : new int[] {-1, 5, LOW, HIGH}) {
            due("hastes p", x.hastes(p), UNKNOWN);
            due("rooms p", x.rooms(p), UNKNOWN);
            due("kinds p", x.kinds(p), UNKNOWN);
        }
        due("haste stays", x.ofPerson(0, 1), 5);
    }

    private static void promise23Odds() {
        StepBack x = lineOf("m0;p00;p00;p00");
        long[][] due = {{1, 2}, {1, 4}, {1, 8}};
        for (int p = 0; p < 3; p++) {
            due("odds upper", x.odds(p, 0), due[p][0]);
            due("odds lower", x.odds(p, 1), due[p][1]);
        }
        x.go();
        due("who is there does not matter", x.odds(0, 1), 2);
        due("odds p", x.odds(3, 0), LOST);
        due("odds p", x.odds(-1, 0), LOST);
        due("odds which", x.odds(0, 2), LOST);
        due("odds which", x.odds(0, -1), LOST);
        // 1 goes first wherever it is; 0 where 1 is not.
        StepBack two = lineOf("m0;p11;p99");
        due("odds upper", two.odds(1, 0), 1);
        due("odds lower", two.odds(1, 1), 2);
        due("odds upper", two.odds(0, 0), 1);
        due("odds lower", two.odds(0, 1), 4);
    }

    private static void promise24And25Sheets() {
        StepBack x = new StepBack();
        due("sheet", x.sheet(0, 2, 3), 1);
        x.put(0, 1, 7);
        due("sheet k", x.sheet(4, 9, 61), UNKNOWN);
        due("sheet k", x.sheet(-1, 0, 1), UNKNOWN);
        due("sheet lane", x.sheet(0, 3, -1), OUTSIDE);
        due("sheet lane", x.sheet(0, -1, 1), OUTSIDE);
        due("sheet n", x.sheet(0, 0, 61), OUTSIDE);
        due("sheet size", x.sheet(0, 0, -1), SIZE);
        due("fault", x.fault(), 4);
        due("sheet size", x.sheet(0, 0, LOW), SIZE);
        due("sheet refused", x.sheet(0, 0, 61), OUTSIDE);
        due("fault", x.fault(), 0);
        due("what was there stays", x.cell(0, 1, 2), 7);
        x.put(0, 0, 8);
        x.sheet(0, 0, -1);
        due("sheet", x.sheet(0, 2, 60), 1);
        due("fault", x.fault(), 0);
        due("a new row is 0", x.cell(0, 1, 2), 0);
        due("a new row is 0", x.cell(0, 0, 2), 0);
        due("the last cell", x.put(0, 59, 1), 1);
        due("sheet of none", x.sheet(0, 0, 0), 1);
        due("no cell", x.put(0, 0, 1), INDEX);
        due("lose", x.lose(0), 1);
        due("lose is no call with faults", x.fault(), 3);
        due("lose", x.lose(0), 0);
        due("lose k", x.lose(4), UNKNOWN);
        due("lose k", x.lose(-1), UNKNOWN);
        due("nothing", x.put(0, 0, 1), NULL);
        x.sheet(3, 2, 60);
        x.put(3, 59, 9);
        x.sheet(3, 2, 1);
        x.sheet(3, 2, 60);
        due("0 at first", x.cell(3, 59, 2), 0);
        due("others have nothing", x.put(1, 0, 0), NULL);
    }

    private static void promise26And27Cells() {
        StepBack x = new StepBack();
        int[] values = {0, 127, 128, -129, 255, 32767, 32768, 65535, HIGH, LOW, -1};
        x.sheet(0, 0, 5);
        x.sheet(1, 1, 5);
        x.sheet(2, 2, 5);
        for (int v : values) {
            for (int k = 0; k < 3; k++) {
                due("put", x.put(k, 4, v), 1);
            }
            due("byte", x.cell(0, 4, 0), (byte) v);
            due("short", x.cell(1, 4, 1), (short) v);
            due("int", x.cell(2, 4, 2), v);
        }
        due("others stay", x.cell(2, 3, 2), 0);
        due("put k", x.put(4, 0, 0), UNKNOWN);
        due("put k", x.put(-1, 0, 0), UNKNOWN);
        due("put index", x.put(0, 5, 0), INDEX);
        due("put index", x.put(0, -1, 0), INDEX);
        due("put index", x.put(0, HIGH, 0), INDEX);
        due("fault", x.fault(), 3);
        due("put", x.put(0, 0, 0), 1);
        due("fault", x.fault(), 0);
        due("put null", x.put(3, -1, 0), NULL);
        due("fault", x.fault(), 1);
        due("put refused", x.put(4, 0, 0), UNKNOWN);
        due("fault", x.fault(), 0);
        due("cell k", x.cell(4, 0, 3), LOST);
        due("fault", x.fault(), 0);
        x.put(3, 0, 0);
        due("cell lane", x.cell(3, 0, 3), LOST);
        due("fault", x.fault(), 0);
        due("cell lane", x.cell(0, 0, -1), LOST);
        due("fault", x.fault(), 0);
        due("cell cast", x.cell(0, 9, 1), LOST);
        due("fault", x.fault(), 2);
        due("cell null", x.cell(3, 9, 1), LOST);
        due("fault", x.fault(), 1);
        due("cell index", x.cell(0, 5, 0), LOST);
        due("fault", x.fault(), 3);
        due("cell", x.cell(0, 0, 0), 0);
        due("fault", x.fault(), 0);
    }

    private static void promise28Copy() {
        StepBack x = new StepBack();
        x.sheet(0, 2, 5);
        x.sheet(1, 2, 4);
        x.sheet(2, 1, 5);
        for (int i = 0; i < 5; i++) {
            x.put(0, i, i + 1);
        }
        due("copy", x.copy(0, 1, 1, 2, 2), 2);
        due("copied", x.cell(1, 2, 2) * 10 + x.cell(1, 3, 2), 23);
        due("others stay", x.cell(1, 1, 2), 0);
        due("copy in one, forward", x.copy(0, 0, 0, 1, 4), 4);
        for (int i = 0; i < 5; i++) {
            due("as they were", x.cell(0, i, 2), i == 0 ? 1 : i);
        }
        due("copy in one, backward", x.copy(0, 2, 0, 0, 3), 3);
        due("as they were", x.cell(0, 0, 2) * 100 + x.cell(0, 1, 2) * 10 + x.cell(0, 2, 2), 234);
        due("copy none", x.copy(0, 5, 1, 4, 0), 0);
        due("copy k", x.copy(4, 0, 3, 0, 1), UNKNOWN);
        due("copy other", x.copy(3, 0, -1, 0, 1), UNKNOWN);
        due("copy null", x.copy(3, -1, 2, 0, 1), NULL);
        due("copy null", x.copy(0, -1, 3, 0, 1), NULL);
        due("fault", x.fault(), 1);
        due("copy cast", x.copy(0, -1, 2, 0, 1), CAST);
        due("fault", x.fault(), 2);
        int[][] beyond = {{-1, 0, 1}, {0, -1, 1}, {0, 0, -1}, {5, 0, 1}, {0, 4, 1}, {3, 0, 3}, {0, 2, 3},
            {6, 0, 0}, {0, 5, 0}, {0, 0, HIGH}, {HIGH, 0, HIGH}, {1, HIGH, HIGH}, {LOW, 0, 0}, {0, 0, LOW}};
        for (int[] b : beyond) {
            due("copy index", x.copy(0, b[0], 1, b[1], b[2]), INDEX);
            due("fault", x.fault(), 3);
        }
        due("copy refused", x.copy(9, 0, 0, 0, 0), UNKNOWN);
        due("fault", x.fault(), 0);
    }

    private static void promises29To32Bodies() {
        StepBack x = lineOf(FIVE);
        int trace = 0;
        int[][] bodies = {{1}, {2, 1}, {3, 2, 1, 1}, {1}, {2, 1}};
        int[] telling = {5, 104, 118, 8, 102};
        for (int p = 0; p < 5; p++) {
            due("tell", x.tell(p), telling[p]);
            for (int body : bodies[p]) {
                trace = 31 * trace + body;
            }
            due("trace of tell", x.trace(), trace);
            due("hear", x.hear(p), p == 2 ? 20 : p);
            trace = 31 * trace + (p == 2 ? 5 : 4);
            due("trace of hear", x.trace(), trace);
        }
        for (int p : new int[] {-1, 5, LOW, HIGH}) {
            due("tell p", x.tell(p), UNKNOWN);
            due("hear p", x.hear(p), UNKNOWN);
        }
        due("trace stays", x.trace(), trace);
        x.hurry(2, 3);
        due("tell by haste", x.tell(2), 106);
    }

    private static void promise31As() {
        StepBack x = lineOf("m0;p11;u11;l11");
        int[][] due = {{1, CAST, CAST}, {1, 1, CAST}, {1, 1, 1}};
        for (int p = 0; p < 3; p++) {
            for (int kind = 0; kind < 3; kind++) {
                due("as(" + p + ", " + kind + ")", x.as(p, kind), due[p][kind]);
                due("fault", x.fault(), due[p][kind] == 1 ? 0 : 2);
            }
            due("as kind", x.as(p, 3), OUTSIDE);
            due("fault", x.fault(), 0);
            due("as kind", x.as(p, -1), OUTSIDE);
        }
        due("as p", x.as(3, 3), UNKNOWN);
        due("as p", x.as(-1, 0), UNKNOWN);
    }

    private static void promise33Fault() {
        StepBack x = lineOf("m0;p11;p11");
        due("cast", x.as(0, 1), CAST);
        x.go();
        x.order(0, 9);
        x.lose(0);
        x.tell(0);
        x.many(0);
        x.ofPerson(9, 9);
        due("only calls with faults count", x.fault(), 2);
        due("fault itself stays", x.fault(), 2);
        x.as(0, 0);
        due("none", x.fault(), 0);
    }

    private static void promise34Many() {
        StepBack x = lineOf(FIVE);
        x.go();
        x.go();
        x.reading(0, 0, 0);
        int[] due = {5, 2, 3, 0, 1};
        for (int what = 0; what < 5; what++) {
            due("many(" + what + ")", x.many(what), due[what]);
        }
        due("many what", x.many(5), OUTSIDE);
        due("many what", x.many(-1), OUTSIDE);
    }

    public static void main(String[] args) {
        constants();
        promise1NewObject();
        promise2Texts();
        promise2Line();
        promise2MakesAnew();
        promise3OfPerson();
        promises4To6Changes();
        promises7And8Go();
        promises9And10Owes();
        paysIsOfThatOne();
        promise11Calls();
        promise11NamesNobody();
        promise11Refusals();
        promise12Order();
        promise13Loss();
        promise14Let();
        promises15And16Clearing();
        clearedByGroups();
        promise17Were();
        promises18And19Readings();
        promises20To22Sets();
        promise23Odds();
        promise24And25Sheets();
        promise26And27Cells();
        promise28Copy();
        promises29To32Bodies();
        promise31As();
        promise33Fault();
        promise34Many();
        System.out.println(asked + " answers, " + wrong + " not as due");
        if (wrong != 0) {
            System.exit(1);
        }
    }
}
