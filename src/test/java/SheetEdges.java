/** Edges of promises 24 to 34: sheets, cells, copies, telling, kinds, trace, faults, how many. */
public final class SheetEdges extends Edges {

    private static void dueCell(StepBack x, int k, int i, int lane, long want) {
        due("cell(" + k + ", " + i + ", " + lane + ")", x.cell(k, i, lane), want);
        due("no fault", x.fault(), 0);
    }

    private static void dueNoCell(StepBack x, int k, int i, int lane, int fault) {
        due("cell(" + k + ", " + i + ", " + lane + ")", x.cell(k, i, lane), LOST);
        due("fault", x.fault(), fault);
    }

    private static void dueRow(StepBack x, int k, int lane, int... cells) {
        for (int i = 0; i < cells.length; i++) {
            dueCell(x, k, i, lane, cells[i]);
        }
        dueNoCell(x, k, cells.length, lane, 3);
    }

    // ---- promise 24

    private static void lengths0And60() {
        for (int k = 0; k < 4; k++) {
            for (int lane = BYTES; lane <= INTS; lane++) {
                StepBack x = new StepBack();
                due("of none", x.sheet(k, lane, 0), 1);
                due("no fault", x.fault(), 0);
                dueRow(x, k, lane);
                due("no cell", x.put(k, 0, 1), INDEX);
                due("it has a row all the same", x.lose(k), 1);
                due("of sixty", x.sheet(k, lane, 60), 1);
                dueRow(x, k, lane, new int[60]);
                due("the last", x.put(k, 59, 5), 1);
                due("behind the last", x.put(k, 60, 5), INDEX);
                due("of one", x.sheet(k, lane, 1), 1);
                dueRow(x, k, lane, 0);
            }
        }
    }

    private static void lengthAbove60() {
        StepBack x = new StepBack();
        for (int n : new int[] {61, 62, 1000, HIGH}) {
            due("n " + n, x.sheet(0, INTS, n), OUTSIDE);
            due("that is no fault", x.fault(), 0);
            due("it has nothing", x.lose(0), 0);
        }
    }

    private static void lengthBelow0() {
        StepBack x = new StepBack();
        for (int n : new int[] {-1, -60, -61, LOW}) {
            due("n " + n, x.sheet(0, INTS, n), SIZE);
            due("fault", x.fault(), 4);
            due("it has nothing", x.lose(0), 0);
            for (int lane : beside(2)) {
                due("lane ahead of it", x.sheet(0, lane, n), OUTSIDE);
                due("refused", x.fault(), 0);
            }
            for (int k : beside(3)) {
                due("sheet ahead of it", x.sheet(k, INTS, n), UNKNOWN);
                due("refused", x.fault(), 0);
            }
        }
    }

    private static void sheetsAndLanesBeside() {
        StepBack x = new StepBack();
        for (int k : beside(3)) {
            due("sheet " + k, x.sheet(k, INTS, 5), UNKNOWN);
            due("ahead of a lane", x.sheet(k, 3, 5), UNKNOWN);
            due("ahead of a length", x.sheet(k, INTS, 61), UNKNOWN);
        }
        for (int lane : beside(2)) {
            due("lane " + lane, x.sheet(0, lane, 5), OUTSIDE);
        }
        for (int k = 0; k < 4; k++) {
            due("it has nothing", x.lose(k), 0);
        }
    }

    private static void aNewRowIs0() {
        StepBack x = new StepBack();
        fill(x, 0, INTS, 1, 2, 3, 4, 5);
        due("shorter", x.sheet(0, INTS, 2), 1);
        dueRow(x, 0, INTS, 0, 0);
        due("longer again", x.sheet(0, INTS, 5), 1);
        dueRow(x, 0, INTS, 0, 0, 0, 0, 0);
        fill(x, 0, INTS, 1, 2, 3);
        x.lose(0);
        due("after it had nothing", x.sheet(0, INTS, 3), 1);
        dueRow(x, 0, INTS, 0, 0, 0);
        fill(x, 0, INTS, 1, 2, 3);
        due("of another lane", x.sheet(0, BYTES, 3), 1);
        dueRow(x, 0, BYTES, 0, 0, 0);
        dueNoCell(x, 0, 0, INTS, 2);
    }

    private static void whatASheetHadStaysWhereRefused() {
        StepBack x = new StepBack();
        fill(x, 0, SHORTS, 1, 2, 3);
        x.sheet(0, INTS, 61);
        x.sheet(0, 3, 2);
        x.sheet(0, INTS, -1);
        x.sheet(4, INTS, 2);
        dueRow(x, 0, SHORTS, 1, 2, 3);
    }

    private static void sheetsAreApart() {
        StepBack x = new StepBack();
        for (int k = 0; k < 4; k++) {
            fill(x, k, INTS, 10 * k, 10 * k + 1);
        }
        due("one has nothing", x.lose(2), 1);
        x.sheet(1, BYTES, 3);
        dueRow(x, 0, INTS, 0, 1);
        dueRow(x, 1, BYTES, 0, 0, 0);
        dueNoCell(x, 2, 0, INTS, 1);
        dueRow(x, 3, INTS, 30, 31);
    }

    // ---- promise 25

    private static void loseWhatIsThereAndWhatIsNot() {
        StepBack x = new StepBack();
        for (int k = 0; k < 4; k++) {
            due("had nothing", x.lose(k), 0);
            x.sheet(k, INTS, 60);
            due("had a row", x.lose(k), 1);
            due("has nothing", x.lose(k), 0);
            dueNoCell(x, k, 0, INTS, 1);
        }
        for (int k : beside(3)) {
            due("sheet " + k, x.lose(k), UNKNOWN);
        }
    }

    private static void loseNamesNoFault() {
        StepBack x = new StepBack();
        due("a fault", x.put(0, 0, 0), NULL);
        x.lose(0);
        x.lose(4);
        due("it stays", x.fault(), 1);
    }

    // ---- promise 26

    private static void numbersAreCutToALane() {
        int[] put = {0, 1, -1, 127, 128, -128, -129, 255, 256, 32767, 32768, -32768, -32769, 65535, 65536, HIGH, LOW};
        int[] bytes = {0, 1, -1, 127, -128, -128, 127, -1, 0, -1, 0, 0, -1, -1, 0, -1, 0};
        int[] shorts = {0, 1, -1, 127, 128, -128, -129, 255, 256, 32767, -32768, -32768, 32767, -1, 0, -1, 0};
        StepBack x = new StepBack();
        fill(x, 0, BYTES, put);
        fill(x, 1, SHORTS, put);
        fill(x, 2, INTS, put);
        dueRow(x, 0, BYTES, bytes);
        dueRow(x, 1, SHORTS, shorts);
        dueRow(x, 2, INTS, put);
    }

    private static void putAtTheLastCellAndBehindIt() {
        StepBack x = new StepBack();
        fill(x, 0, INTS, 1, 2, 3);
        due("the first", x.put(0, 0, 4), 1);
        due("the last", x.put(0, 2, 5), 1);
        due("no fault", x.fault(), 0);
        for (int i : beside(2)) {
            due("cell " + i, x.put(0, i, 9), INDEX);
            due("fault", x.fault(), 3);
        }
        dueRow(x, 0, INTS, 4, 2, 5);
        x.sheet(0, INTS, 60);
        x.sheet(0, INTS, 3);
        due("a cell that a longer row had", x.put(0, 3, 9), INDEX);
    }

    private static void putOnNothing() {
        StepBack x = new StepBack();
        for (int i : new int[] {0, -1, 60, LOW, HIGH}) {
            due("nothing ahead of an index", x.put(0, i, 9), NULL);
            due("fault", x.fault(), 1);
        }
        for (int k : beside(3)) {
            due("sheet " + k, x.put(k, 0, 9), UNKNOWN);
            due("ahead of an index", x.put(k, -1, 9), UNKNOWN);
            due("refused", x.fault(), 0);
        }
    }

    // ---- promise 27

    private static void cellAtTheLastAndBehindIt() {
        for (int lane = BYTES; lane <= INTS; lane++) {
            StepBack x = new StepBack();
            fill(x, 3, lane, 1, 2, 3);
            dueCell(x, 3, 0, lane, 1);
            dueCell(x, 3, 2, lane, 3);
            for (int i : beside(2)) {
                dueNoCell(x, 3, i, lane, 3);
            }
        }
    }

    private static void cellTakenAsEachLane() {
        StepBack x = new StepBack();
        for (int lane = BYTES; lane <= INTS; lane++) {
            fill(x, 0, lane, 7);
            for (int as = BYTES; as <= INTS; as++) {
                due("lane " + lane + " as " + as, x.cell(0, 0, as), lane == as ? 7 : LOST);
                due("fault", x.fault(), lane == as ? 0 : 2);
                due("ahead of an index", x.cell(0, 1, as), LOST);
                due("fault", x.fault(), lane == as ? 3 : 2);
            }
        }
    }

    private static void cellOfNothingIsNoCast() {
        StepBack x = new StepBack();
        x.sheet(0, INTS, 5);
        x.lose(0);
        for (int lane = BYTES; lane <= INTS; lane++) {
            dueNoCell(x, 0, 0, lane, 1);
            dueNoCell(x, 1, -1, lane, 1);
            dueNoCell(x, 1, 60, lane, 1);
        }
    }

    private static void cellRefused() {
        StepBack x = new StepBack();
        x.sheet(0, INTS, 5);
        for (int k : beside(3)) {
            x.put(1, 0, 0);
            dueNoCell(x, k, 0, INTS, 0);
        }
        for (int lane : beside(2)) {
            x.put(1, 0, 0);
            dueNoCell(x, 0, 0, lane, 0);
            x.put(1, 0, 0);
            dueNoCell(x, 1, 9, lane, 0);
        }
    }

    // ---- promise 28

    private static StepBack twoRows() {
        StepBack x = new StepBack();
        fill(x, 0, INTS, 1, 2, 3, 4, 5);
        fill(x, 1, INTS, 11, 12, 13);
        return x;
    }

    private static void copyAllAndNone() {
        StepBack x = twoRows();
        due("all of the shorter", x.copy(1, 0, 0, 2, 3), 3);
        dueRow(x, 0, INTS, 1, 2, 11, 12, 13);
        dueRow(x, 1, INTS, 11, 12, 13);
        due("none", x.copy(0, 0, 1, 0, 0), 0);
        due("none from the ends on", x.copy(0, 5, 1, 3, 0), 0);
        due("no fault", x.fault(), 0);
        x.sheet(2, INTS, 0);
        x.sheet(3, INTS, 0);
        due("none of rows of none", x.copy(2, 0, 3, 0, 0), 0);
        dueRow(x, 1, INTS, 11, 12, 13);
        x.sheet(2, BYTES, 60);
        x.put(2, 59, 7);
        x.sheet(3, BYTES, 60);
        due("sixty", x.copy(2, 0, 3, 0, 60), 60);
        dueCell(x, 3, 59, BYTES, 7);
    }

    private static void copyOntoItselfForward() {
        StepBack x = twoRows();
        due("forward", x.copy(0, 0, 0, 1, 4), 4);
        dueRow(x, 0, INTS, 1, 1, 2, 3, 4);
        due("by two", x.copy(0, 0, 0, 2, 3), 3);
        dueRow(x, 0, INTS, 1, 1, 1, 1, 2);
    }

    private static void copyOntoItselfBackward() {
        StepBack x = twoRows();
        due("backward", x.copy(0, 1, 0, 0, 4), 4);
        dueRow(x, 0, INTS, 2, 3, 4, 5, 5);
        due("by two", x.copy(0, 2, 0, 0, 3), 3);
        dueRow(x, 0, INTS, 4, 5, 5, 5, 5);
    }

    private static void copyOntoItselfInPlace() {
        StepBack x = twoRows();
        due("all of it", x.copy(0, 0, 0, 0, 5), 5);
        dueRow(x, 0, INTS, 1, 2, 3, 4, 5);
        due("not beyond", x.copy(0, 0, 0, 1, 5), INDEX);
        dueRow(x, 0, INTS, 1, 2, 3, 4, 5);
    }

    private static void copyBelow0AndBeyond() {
        int[][] beyond = {{-1, 0, 1}, {0, -1, 1}, {0, 0, -1}, {0, 0, LOW}, {5, 0, 1}, {4, 0, 2}, {0, 3, 1}, {0, 2, 2},
            {0, 0, 4}, {0, 0, 6}, {3, 1, 3}};
        StepBack x = twoRows();
        for (int[] b : beyond) {
            due("copy " + b[0] + " " + b[1] + " " + b[2], x.copy(0, b[0], 1, b[1], b[2]), INDEX);
            due("fault", x.fault(), 3);
        }
        due("n below 0 is no size", x.copy(0, 1, 1, 1, -1), INDEX);
        due("just inside", x.copy(0, 2, 1, 0, 3), 3);
        dueRow(x, 1, INTS, 3, 4, 5);
    }

    private static void copyOfNoneBeyondTheEnds() {
        int[][] beyond = {{6, 0}, {0, 4}, {-1, 0}, {0, -1}, {HIGH, 0}, {0, HIGH}, {LOW, 0}, {0, LOW}};
        StepBack x = twoRows();
        for (int[] b : beyond) {
            due("none from " + b[0] + " to " + b[1], x.copy(0, b[0], 1, b[1], 0), INDEX);
            due("fault", x.fault(), 3);
        }
        due("none from the last on", x.copy(0, 5, 1, 3, 0), 0);
    }

    private static void copyWhoseSumWouldWrap() {
        int[][] wrap = {{HIGH, 0, 1}, {HIGH, 0, HIGH}, {0, HIGH, 1}, {0, HIGH, HIGH}, {1, 1, HIGH}, {HIGH, HIGH, HIGH},
            {5, 3, HIGH}, {HIGH - 1, 0, 3}, {0, HIGH - 1, 3}, {LOW, 0, HIGH}, {LOW, LOW, LOW}};
        StepBack x = twoRows();
        for (int[] w : wrap) {
            due("copy " + w[0] + " " + w[1] + " " + w[2], x.copy(0, w[0], 1, w[1], w[2]), INDEX);
        }
        dueRow(x, 0, INTS, 1, 2, 3, 4, 5);
        dueRow(x, 1, INTS, 11, 12, 13);
    }

    private static void copyOfNothing() {
        StepBack x = twoRows();
        fill(x, 2, BYTES, 1);
        due("the first", x.copy(3, 0, 0, 0, 0), NULL);
        due("the other", x.copy(0, 0, 3, 0, 0), NULL);
        due("itself", x.copy(3, 0, 3, 0, 0), NULL);
        due("fault", x.fault(), 1);
        due("ahead of a cast", x.copy(2, 0, 3, 0, 0), NULL);
        due("ahead of an index", x.copy(0, -1, 3, -1, -1), NULL);
        due("ahead of an index", x.copy(3, -1, 0, -1, -1), NULL);
        x.lose(1);
        due("that had a row", x.copy(0, 0, 1, 0, 1), NULL);
    }

    private static void copyOfUnlikeLanes() {
        for (int from = BYTES; from <= INTS; from++) {
            for (int to = BYTES; to <= INTS; to++) {
                StepBack x = new StepBack();
                fill(x, 0, from, 1, 2);
                fill(x, 1, to, 3, 4);
                due("copy", x.copy(0, 0, 1, 0, 1), from == to ? 1 : CAST);
                due("fault", x.fault(), from == to ? 0 : 2);
                due("none", x.copy(0, 0, 1, 0, 0), from == to ? 0 : CAST);
                due("ahead of an index", x.copy(0, 0, 1, 0, 3), from == to ? INDEX : CAST);
                dueRow(x, 1, to, from == to ? 1 : 3, 4);
            }
        }
    }

    private static void copyOfNoSheet() {
        StepBack x = twoRows();
        for (int k : beside(3)) {
            x.put(3, 0, 0);
            due("the first", x.copy(k, 0, 1, 0, 1), UNKNOWN);
            due("refused", x.fault(), 0);
            due("the other", x.copy(0, 0, k, 0, 1), UNKNOWN);
            due("ahead of nothing", x.copy(3, 0, k, 0, 1), UNKNOWN);
            due("ahead of nothing", x.copy(k, 0, 3, -1, 1), UNKNOWN);
        }
    }

    // ---- promises 29, 30, 32

    private static void tellByHaste0And9() {
        StepBack x = lineOf("m0;p00;u00;l00");
        int[] still = {0, 100, 100};
        int[] hasty = {9, 109, 118};
        for (int p = 0; p < 3; p++) {
            due("haste 0", x.tell(p), still[p]);
            x.hurry(p, 9);
            due("haste 9", x.tell(p), hasty[p]);
        }
    }

    private static void bodiesOfEachKind() {
        int[] told = {1, 31 * 2 + 1, ((31 * 3 + 2) * 31 + 1) * 31 + 1};
        int[] heard = {4, 4, 5};
        for (int p = 0; p < 3; p++) {
            StepBack x = lineOf("m0;p11;u11;l11");
            x.tell(p);
            due("trace of tell", x.trace(), told[p]);
            StepBack y = lineOf("m0;p11;u11;l11");
            y.hear(p);
            due("trace of hear", y.trace(), heard[p]);
        }
    }

    private static void hearFirstAndLast() {
        StepBack x = lineOf("m0;p11;u11;p11;u11;l11;p11");
        int[] due = {0, 1, 2, 3, 20, 5};
        for (int p = 0; p < 6; p++) {
            due("heard", x.hear(p), due[p]);
        }
    }

    private static void tellAndHearOfNobody() {
        StepBack x = lineOf(FIVE);
        x.tell(0);
        for (int p : beside(4)) {
            due("tell " + p, x.tell(p), UNKNOWN);
            due("hear " + p, x.hear(p), UNKNOWN);
            due("trace stays", x.trace(), 1);
        }
    }

    private static void tellAndHearOfOneWhoIsDown() {
        StepBack x = lineOf(FIVE);
        due("1 goes", x.go(), 1);
        due("tell", x.tell(1), 104);
        due("hear", x.hear(1), 1);
    }

    /** By longs that are cut to 32 bits at each step. */
    private static void traceWraps() {
        StepBack x = lineOf("m0;l91;p11");
        long due = 0;
        boolean below0 = false;
        boolean above0Again = false;
        for (int k = 0; k < 60; k++) {
            x.tell(0);
            for (int body : new int[] {3, 2, 1, 1}) {
                due = (31 * due + body) % (1L << 32);
            }
            x.hear(1);
            due = (31 * due + 4) % (1L << 32);
            long asInt = due >= 1L << 31 ? due - (1L << 32) : due;
            due("trace", x.trace(), asInt);
            above0Again |= below0 && asInt > 0;
            below0 |= asInt < 0;
        }
        due("it went below 0 and above it again", below0 && above0Again ? 1 : 0, 1);
    }

    private static void traceIs0AtFirstAndStays() {
        StepBack x = new StepBack();
        due("at first", x.trace(), 0);
        take(x, BYTES, FIVE);
        due("by a line", x.trace(), 0);
        x.go();
        x.as(0, 0);
        x.hastes(0);
        due("by calls that tell nothing", x.trace(), 0);
        x.hear(0);
        due("heard", x.trace(), 4);
        x.line(0, BYTES, 0, 22);
        due("by a new line", x.trace(), 4);
        x.morning();
        due("by a morning", x.trace(), 4);
    }

    // ---- promise 31

    private static void eachKindAsEachKind() {
        StepBack x = lineOf("m0;p11;u11;l11");
        for (int p = 0; p < 3; p++) {
            for (int kind = 0; kind < 3; kind++) {
                due("as(" + p + ", " + kind + ")", x.as(p, kind), kind <= p ? 1 : CAST);
                due("fault", x.fault(), kind <= p ? 0 : 2);
            }
        }
    }

    private static void asBeside() {
        StepBack x = lineOf("m0;p11;u11;l11");
        for (int kind : beside(2)) {
            for (int p = 0; p < 3; p++) {
                x.put(3, 0, 0);
                due("kind " + kind, x.as(p, kind), OUTSIDE);
                due("refused", x.fault(), 0);
            }
        }
        for (int p : beside(2)) {
            x.put(3, 0, 0);
            due("person " + p, x.as(p, 0), UNKNOWN);
            due("refused", x.fault(), 0);
            due("ahead of a kind", x.as(p, 3), UNKNOWN);
        }
    }

    // ---- promise 34

    private static void manyWithoutALine() {
        StepBack x = new StepBack();
        x.sheet(0, BYTES, 5);
        x.lease(5);
        x.morning();
        x.go();
        x.reading(0, 0, 0);
        x.line(0, BYTES, 0, 5);
        for (int what = 0; what <= 4; what++) {
            due("many(" + what + ")", x.many(what), 0);
        }
    }

    private static void manyBeside() {
        StepBack x = new StepBack();
        for (int what : beside(4)) {
            due("without a line", x.many(what), OUTSIDE);
        }
        take(x, BYTES, FIVE);
        for (int what : beside(4)) {
            due("many(" + what + ")", x.many(what), OUTSIDE);
        }
    }

    private static void manyOfEach() {
        StepBack x = lineOf("m9;p00;p00;p00;p00;p00;p00");
        for (int k = 0; k < 8; k++) {
            x.reading(0, 18, 0);
            x.morning();
        }
        due("people", x.many(0), 6);
        due("ground", x.many(1), 9);
        due("there", x.many(2), 6);
        due("mornings", x.many(3), 8);
        due("readings", x.many(4), 8);
        for (int left = 5; left >= 0; left--) {
            x.go();
            due("there", x.many(2), left);
        }
        due("people", x.many(0), 6);
    }

    public static void main(String[] args) {
        lengths0And60();
        lengthAbove60();
        lengthBelow0();
        sheetsAndLanesBeside();
        aNewRowIs0();
        whatASheetHadStaysWhereRefused();
        sheetsAreApart();
        loseWhatIsThereAndWhatIsNot();
        loseNamesNoFault();
        numbersAreCutToALane();
        putAtTheLastCellAndBehindIt();
        putOnNothing();
        cellAtTheLastAndBehindIt();
        cellTakenAsEachLane();
        cellOfNothingIsNoCast();
        cellRefused();
        copyAllAndNone();
        copyOntoItselfForward();
        copyOntoItselfBackward();
        copyOntoItselfInPlace();
        copyBelow0AndBeyond();
        copyOfNoneBeyondTheEnds();
        copyWhoseSumWouldWrap();
        copyOfNothing();
        copyOfUnlikeLanes();
        copyOfNoSheet();
        tellByHaste0And9();
        bodiesOfEachKind();
        hearFirstAndLast();
        tellAndHearOfNobody();
        tellAndHearOfOneWhoIsDown();
        traceWraps();
        traceIs0AtFirstAndStays();
        eachKindAsEachKind();
        asBeside();
        manyWithoutALine();
        manyBeside();
        manyOfEach();
        end();
    }
}
