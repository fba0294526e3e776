/** Edges of promises 7 to 11: calls gone through, mornings, what is owed and paid, calls told. */
public final class CallEdges extends Edges {

    // ---- promise 7

    private static void goOfNobody() {
        due("no line", new StepBack().go(), STATE);
        StepBack x = lineOf("m9;p99;p99");
        x.go();
        x.go();
        String before = shown(x);
        due("nobody is there", x.go(), STATE);
        dueSame("go of nobody", shown(x), before);
        x.morning();
        due("all are there again", x.go(), 0);
    }

    private static void goOfOneAlone() {
        StepBack x = lineOf("m9;p99;p00");
        due("0 goes", x.go(), 0);
        due("1 may not step", x.order(0, 1), 0);
        due("1 goes all the same", x.go(), 1);
        due("nothing is owed", x.cleared(0) + x.ofPerson(0, 6) + x.ofPerson(1, 6), 0);
        StepBack far = lineOf("m9;p00;u99");
        due("1 goes", far.go(), 1);
        due("0 goes", far.go(), 0);
        far.morning();
        far.hurry(0, 9);
        due("both step, to 9 and 10", far.order(0, 1), 10);
        due("1 goes", far.go(), 1);
        due("0 steps once, alone", far.order(0, 1), 1);
        due("0 goes", far.go(), 0);
        due("0 owes nobody", far.ofPerson(0, 6), 0);
        due("1 owes 0", far.owes(1, 0), 10);
    }

    private static void goWithoutASecond() {
        StepBack x = lineOf("m0;p00;p55;p00");
        due("it steps once", x.order(0, 1), 1);
        due("the one who may", x.go(), 1);
        for (int p = 0; p < 3; p++) {
            due("nobody owes", x.ofPerson(p, 6), 0);
            due("nobody is owed", x.ofPerson(p, 7), 0);
        }
        StepBack one = lineOf("m0;p11;p11");
        due("1 may not go farther than 1", one.go(), 0);
        due("so there is no second", one.ofPerson(0, 6) + one.ofPerson(1, 7), 0);
    }

    private static void goWhereNobodySteps() {
        StepBack x = lineOf("m0;p90;p09;l19;u00");
        for (int p = 0; p < 4; p++) {
            due("at no steps", x.order(0, 1), 0);
            due("the least that is there", x.go(), p);
            due("owes nothing", x.ofPerson(p, 6), 0);
        }
        due("nobody is there", x.go(), STATE);
    }

    private static void leastThereIsNotAlways0() {
        StepBack x = lineOf("m0;p11;p00;p00");
        due("0 goes", x.go(), 0);
        x.hurry(0, 0);
        due("the least that is there", x.go(), 1);
        x.morning();
        due("the least that is there", x.go(), 0);
        due("the least that is there", x.go(), 1);
        due("the least that is there", x.go(), 2);
    }

    /** Two alike by turns: who steps last goes. */
    private static void goFartherByOneAtATime() {
        int[][] due = {{0, 0, 0, 0}, {1, 0, 1, 0}, {2, 1, 2, 2}, {3, 0, 3, 3}, {4, 1, 4, 4}, {9, 0, 9, 9}};
        for (int[] d : due) {
            StepBack x = lineOf("m0;p" + d[0] + "9;p" + d[0] + "9");
            due("steps", x.order(0, 1), d[2]);
            due("who", x.go(), d[1]);
            due("owes", x.owes(d[1], 1 - d[1]), d[3]);
            due("the other owes nothing", x.owes(1 - d[1], d[1]), 0);
        }
    }

    /** One goes no farther than it must: the other stops, it heads, it does not step again. */
    private static void whoHeadsDoesNotStep() {
        StepBack x = lineOf("m9;p99;p39");
        due("0 to 1, 1 to 2, 0 to 3", x.go(), 0);
        due("owes", x.owes(0, 1), 3);
        StepBack y = lineOf("m9;p39;p99");
        due("0 to 1, 1 to 2, 0 to 3, 1 to 4", y.go(), 1);
        due("owes", y.owes(1, 0), 4);
    }

    /** MAYs 2, 9, 3: 0 to 1, 1 to 2, 2 to 3, then 1 to 4. */
    private static void secondIsWhoHeadedTillThen() {
        StepBack x = lineOf("m9;p29;p99;p39");
        due("1 goes", x.go(), 1);
        due("2 headed till then", x.owes(1, 2), 4);
        due("0 headed sooner", x.owes(1, 0), 0);
        // 0 to 1, 2 to 2, 0 may not.
        due("2 goes", x.go(), 2);
        due("0 headed till then", x.owes(2, 0), 2);
    }

    private static void goAsFarAsAnyMay() {
        StepBack two = lineOf("m9;u99;u99");
        due("1 goes", two.go(), 1);
        due("owes", two.owes(1, 0), 18);
        StepBack six = lineOf("m9;u99;u99;u99;u99;u99;u99");
        due("5 goes", six.go(), 5);
        due("owes", six.owes(5, 4), 18);
        due("2 goes, of five", six.go(), 2);
        due("owes", six.owes(2, 1), 18);
        StepBack less = lineOf("m9;u99;u98");
        due("1 may not go to 18", less.go(), 0);
        due("owes", less.owes(0, 1), 17);
    }

    private static void whoIsDownDoesNotStep() {
        StepBack x = lineOf("m0;p99;p55;p22");
        due("0 goes", x.go(), 0);
        due("0 to 1, 1 to 2, 0 to 3, 1 to 4, 0 to 5", x.owes(0, 1), 5);
        due("1 goes", x.go(), 1);
        due("1 to 1, 2 to 2, 1 to 3", x.owes(1, 2), 3);
        due("2 goes", x.go(), 2);
        due("owes nobody", x.ofPerson(2, 6), 0);
    }

    // ---- promise 8

    private static void morningWithoutALine() {
        StepBack x = new StepBack();
        due("no line", x.morning(), STATE);
        due("no morning", x.many(3), 0);
        take(x, BYTES, "m0;p00");
        due("no line yet", x.morning(), STATE);
    }

    private static void morningWithNobodyAndAllAway() {
        StepBack x = lineOf("m0;p00;p00;p00;p00;p00;p00");
        due("nobody was away", x.morning(), 0);
        due("it is a morning all the same", x.many(3), 1);
        for (int away = 1; away <= 6; away++) {
            for (int k = 0; k < away; k++) {
                x.go();
            }
            due("there", x.many(2), 6 - away);
            due("were away", x.morning(), away);
            due("all are there", x.many(2), 6);
            due("which", x.many(3), away + 1);
        }
    }

    private static void morningLeavesTheRest() {
        StepBack x = rich();
        int debts = x.owes(1, 0);
        due("one was away", x.morning(), 1);
        due("what is owed stays", x.owes(1, 0), debts);
        due("what is owed stays", debts, 10);
        due("readings stay", x.many(4), 2);
        due("ground stays", x.many(1), 2);
        due("haste and room stay", x.ofPerson(0, 1) * 10 + x.ofPerson(0, 2), 53);
        due("the next of them", x.many(3), 2);
    }

    // ---- promise 9

    private static void owesOneAndItself() {
        StepBack x = rich();
        for (int p = 0; p < 5; p++) {
            due("itself", x.owes(p, p), UNKNOWN);
        }
        for (int p : beside(4)) {
            due("no such one", x.owes(p, 0), UNKNOWN);
            due("no such other", x.owes(0, p), UNKNOWN);
            due("neither", x.owes(p, p), UNKNOWN);
        }
    }

    private static void owesNothingAtFirst() {
        StepBack x = lineOf(SIX);
        for (int p = 0; p < 6; p++) {
            for (int other = 0; other < 6; other++) {
                due("owes", x.owes(p, other), p == other ? UNKNOWN : 0);
            }
        }
    }

    private static void owesOneWayAndMoreEachTime() {
        StepBack x = lineOf("m9;u99;u99");
        for (int k = 1; k <= 20; k++) {
            x.go();
            due("more", x.owes(1, 0), 18 * k);
            due("not the other way", x.owes(0, 1), 0);
            x.morning();
        }
        due("both ways", goOf(x, 0, 9, 1, 4), 0);
        due("0 owes, too", x.owes(0, 1), 9);
        due("1 owes no less", x.owes(1, 0), 360);
    }

    // ---- promise 10

    /** 1 owes 18 steps for each go. */
    private static StepBack owing(int goes) {
        StepBack x = lineOf("m9;u99;u99;p00");
        for (int k = 0; k < goes; k++) {
            x.go();
            x.morning();
        }
        due("owes", x.owes(1, 0), 18 * goes);
        return x;
    }

    private static void pays1And99() {
        StepBack x = owing(6);
        due("pays 1", x.pays(1, 0, 1), 107);
        due("pays 99", x.pays(1, 0, 99), 8);
        due("owes", x.owes(1, 0), 8);
        due("is owed", x.ofPerson(0, 7), 8);
    }

    private static void paysBeside1And99() {
        StepBack x = owing(6);
        for (int n : new int[] {0, -1, 100, LOW, HIGH}) {
            due("pays " + n, x.pays(1, 0, n), OUTSIDE);
            due("ahead of state", x.pays(2, 0, n), OUTSIDE);
            due("owes as before", x.owes(1, 0), 108);
        }
    }

    private static void paysOneMoreThanIsOwed() {
        StepBack x = owing(1);
        due("one more", x.pays(1, 0, 19), STATE);
        due("owes as before", x.owes(1, 0), 18);
        due("all of it", x.pays(1, 0, 18), 0);
        due("owes nothing", x.owes(1, 0), 0);
        due("one more than nothing", x.pays(1, 0, 1), STATE);
        due("owes nothing", x.owes(1, 0), 0);
        due("balance", x.balance(1), 10000);
        StepBack most = owing(5);
        due("ninety-nine of ninety", most.pays(1, 0, 99), STATE);
        due("and of more than that", owing(6).pays(1, 0, 99), 9);
    }

    private static void paysOneAndItself() {
        StepBack x = owing(1);
        for (int p = 0; p < 3; p++) {
            due("itself", x.pays(p, p, 1), UNKNOWN);
            due("ahead of n", x.pays(p, p, 0), UNKNOWN);
        }
        for (int p : beside(2)) {
            due("no such one", x.pays(p, 0, 1), UNKNOWN);
            due("no such other", x.pays(1, p, 1), UNKNOWN);
            due("ahead of n", x.pays(1, p, 100), UNKNOWN);
        }
        due("owes as before", x.owes(1, 0), 18);
    }

    private static void paysOneAloneAndOneWay() {
        StepBack x = lineOf("m9;p00;p00;p00");
        due("1 goes", goOf(x, 0, 4, 1, 4), 1);
        due("1 goes", goOf(x, 1, 3, 2, 2), 1);
        due("the other way", x.pays(0, 1, 1), STATE);
        due("more than that one is owed", x.pays(1, 2, 4), STATE);
        due("how many it owes then to that one", x.pays(1, 0, 1), 3);
        due("the other is owed as before", x.owes(1, 2), 3);
        due("in all", x.ofPerson(1, 6), 6);
    }

    private static void paysWhoIsDown() {
        StepBack x = lineOf("m9;u99;u99");
        x.go();
        x.go();
        due("nobody is there", x.many(2), 0);
        due("pays", x.pays(1, 0, 8), 10);
    }

    // ---- promise 11

    /** What 0, 1, 2, 3 answer of these pairs. */
    private static void dueCalls(StepBack x, int far, int first, int head, int on, int... pairs) {
        fill(x, 1, INTS, pairs);
        int n = pairs.length / 2;
        due("far", x.calls(1, INTS, 0, n, 0), far);
        due("first wrong", x.calls(1, INTS, 0, n, 1), first);
        due("who heads", x.calls(1, INTS, 0, n, 2), head);
        due("who would go on", x.calls(1, INTS, 0, n, 3), on);
        due("no fault", x.fault(), 0);
    }

    private static void dueWrong(StepBack x, int first, int... pairs) {
        dueCalls(x, -100 - first, first, -100 - first, -100 - first, pairs);
    }

    private static void callsOfNoPairs() {
        StepBack x = lineOf(FIVE);
        dueCalls(x, 0, NONE, NONE, 5);
        fill(x, 1, INTS, 9, 9, 9);
        for (int i = 0; i <= 3; i++) {
            due("none from " + i + " on", x.calls(1, INTS, i, 0, 0), 0);
            due("none from " + i + " on", x.calls(1, INTS, i, 0, 2), NONE);
        }
        due("none one farther", x.calls(1, INTS, 4, 0, 0), INDEX);
        due("none from below", x.calls(1, INTS, -1, 0, 0), INDEX);
        due("none from far below", x.calls(1, INTS, LOW, 0, 0), INDEX);
        dueCalls(lineOf(STILL), 0, NONE, NONE, 0);
    }

    private static void callsOfTwentyPairs() {
        StepBack x = lineOf("m9;u99;u99");
        int[] pairs = new int[42];
        for (int k = 0; k < 21; k++) {
            pairs[2 * k] = k % 2;
            pairs[2 * k + 1] = k + 1;
        }
        fill(x, 1, INTS, pairs);
        due("eighteen", x.calls(1, INTS, 0, 18, 0), 18);
        due("eighteen", x.calls(1, INTS, 0, 18, 1), NONE);
        due("nineteen", x.calls(1, INTS, 0, 19, 0), -118);
        due("twenty", x.calls(1, INTS, 0, 20, 0), -118);
        due("twenty", x.calls(1, INTS, 0, 20, 1), 18);
        due("twenty from 2 on", x.calls(1, INTS, 2, 20, 1), 17);
        due("twenty from 3 on", x.calls(1, INTS, 3, 20, 1), INDEX);
        fill(x, 2, BYTES, new int[60]);
        due("the last forty cells", x.calls(2, BYTES, 20, 20, 1), 0);
        due("not forty", x.calls(2, BYTES, 21, 20, 1), INDEX);
    }

    private static void callsBeside0And20Pairs() {
        StepBack x = lineOf(FIVE);
        fill(x, 1, INTS, new int[60]);
        for (int n : beside(20)) {
            due("n " + n, x.calls(1, INTS, 0, n, 0), OUTSIDE);
            due("ahead of a fault", x.calls(2, INTS, 0, n, 0), OUTSIDE);
            due("that is no fault", x.fault(), 0);
        }
        // Twice these is 0 and 2 by an int that wraps.
        due("n", x.calls(1, INTS, 0, 1 << 31, 0), OUTSIDE);
        due("n", x.calls(1, INTS, 0, (1 << 31) + 1, 0), OUTSIDE);
    }

    private static void firstWrongAtTheFirstPair() {
        StepBack x = lineOf(FIVE);
        dueWrong(x, 0, 0, 0);
        dueWrong(x, 0, 0, 0, 1, 1, 0, 2);
        dueWrong(x, 0, 0, 0, 0, 0);
    }

    private static void firstWrongAtTheLastPair() {
        StepBack x = lineOf(FIVE);
        dueWrong(x, 1, 0, 1, 1, 1);
        dueWrong(x, 4, 0, 1, 1, 2, 0, 3, 1, 4, 0, 6);
        dueWrong(x, 7, 1, 1, 1, 2, 1, 3, 1, 4, 1, 5, 1, 6, 1, 7, 1, 9);
        dueCalls(x, 8, NONE, 1, 0, 1, 1, 1, 2, 1, 3, 1, 4, 1, 5, 1, 6, 1, 7, 1, 8);
    }

    private static void wrongAsOneIsNotThere() {
        StepBack x = lineOf(FIVE);
        due("1 goes", x.go(), 1);
        dueWrong(x, 0, 1, 1);
        dueWrong(x, 1, 0, 1, 1, 2, 0, 3);
        dueCalls(x, 3, NONE, 0, 0, 0, 1, 0, 3);
        x.morning();
        dueCalls(x, 1, NONE, 1, 4, 1, 1);
    }

    private static void wrongAsOneMayNotGoSoFar() {
        StepBack x = lineOf(FIVE);
        int[] mays = {5, 8, 3, 2, 2};
        for (int p = 0; p < 5; p++) {
            fill(x, 1, INTS, p, mays[p], p, mays[p] + 1);
            due("just so far", x.calls(1, INTS, 0, 1, 0), mays[p]);
            due("one farther", x.calls(1, INTS, 2, 1, 0), -100);
            due("one farther", x.calls(1, INTS, 0, 2, 0), -101);
        }
        dueWrong(x, 0, 1, HIGH);
    }

    private static void wrongAsItIsNotFarther() {
        StepBack x = lineOf(FIVE);
        dueWrong(x, 0, 1, 0);
        dueWrong(x, 0, 1, -1);
        dueWrong(x, 0, 1, LOW);
        dueWrong(x, 1, 0, 3, 1, 3);
        dueWrong(x, 1, 0, 3, 1, 2);
        dueWrong(x, 1, 0, 3, 1, -3);
        dueCalls(x, 4, NONE, 1, 1, 0, 3, 1, 4);
        dueCalls(x, 8, NONE, 1, 0, 0, 3, 1, 8);
    }

    private static void whoHeadsMayBeToldAgain() {
        StepBack x = lineOf(FIVE);
        dueCalls(x, 4, NONE, 0, 1, 0, 1, 0, 2, 0, 4);
    }

    private static void aPairThatNamesNobody() {
        StepBack x = lineOf(FIVE);
        for (int p : new int[] {-1, 5, 6, 32, LOW, HIGH}) {
            dueCalls(x, UNKNOWN, UNKNOWN, UNKNOWN, UNKNOWN, p, 1);
            dueCalls(x, UNKNOWN, UNKNOWN, UNKNOWN, UNKNOWN, p, 1, 0, 1);
            dueCalls(x, UNKNOWN, UNKNOWN, UNKNOWN, UNKNOWN, 0, 1, 1, 2, p, 3);
            dueCalls(x, UNKNOWN, UNKNOWN, UNKNOWN, UNKNOWN, 0, 0, p, 3);
        }
        dueCalls(x, 1, NONE, 4, 4, 4, 1);
    }

    private static void personAndStepsAreCutByTheirSheet() {
        StepBack x = lineOf(FIVE);
        fill(x, 1, BYTES, 257, 258);
        due("1 to 2", x.calls(1, BYTES, 0, 1, 0) * 10 + x.calls(1, BYTES, 0, 1, 2), 21);
        fill(x, 1, SHORTS, 257, 258);
        due("nobody", x.calls(1, SHORTS, 0, 1, 0), UNKNOWN);
        fill(x, 1, SHORTS, 65537, 65538);
        due("1 to 2", x.calls(1, SHORTS, 0, 1, 0) * 10 + x.calls(1, SHORTS, 0, 1, 2), 21);
    }

    /** MAYs 5, 8, 3, 2, 2. */
    private static void whoWouldGoOn() {
        StepBack x = lineOf(FIVE);
        dueCalls(x, 1, NONE, 4, 4, 4, 1);
        dueCalls(x, 2, NONE, 4, 3, 4, 2);
        dueCalls(x, 3, NONE, 2, 2, 2, 3);
        dueCalls(x, 4, NONE, 0, 1, 0, 4);
        dueCalls(x, 5, NONE, 1, 0, 1, 5);
        dueCalls(x, 7, NONE, 1, 0, 1, 7);
        x.go();
        dueCalls(x, 1, NONE, 4, 3, 4, 1);
        dueCalls(x, 5, NONE, 0, 0, 0, 5);
        for (int k = 0; k < 4; k++) {
            x.go();
        }
        dueCalls(x, 0, NONE, NONE, 0);
    }

    private static void callsWhats() {
        StepBack x = lineOf(FIVE);
        fill(x, 1, INTS, 0, 1, 0, 1, 5, 1);
        for (int what : beside(3)) {
            due("what " + what, x.calls(1, INTS, 0, 1, what), OUTSIDE);
            due("with a first wrong", x.calls(1, INTS, 0, 2, what), OUTSIDE);
            due("ahead of nobody", x.calls(1, INTS, 0, 3, what), OUTSIDE);
            due("ahead of nothing", x.calls(2, INTS, 0, 1, what), OUTSIDE);
            due("sheet ahead of it", x.calls(4, INTS, 0, 1, what), UNKNOWN);
        }
    }

    private static void callsOfNoSheetOrLane() {
        StepBack x = lineOf(FIVE);
        for (int k : beside(3)) {
            due("sheet " + k, x.calls(k, INTS, 0, 0, 0), UNKNOWN);
            due("ahead of the rest", x.calls(k, 3, -1, 21, 4), UNKNOWN);
        }
        for (int lane : beside(2)) {
            due("lane " + lane, x.calls(0, lane, 0, 0, 0), OUTSIDE);
            due("ahead of nothing", x.calls(1, lane, 0, 0, 0), OUTSIDE);
            due("that is no fault", x.fault(), 0);
        }
        for (int k = 0; k < 4; k++) {
            for (int lane = BYTES; lane <= INTS; lane++) {
                fill(x, k, lane, 0, 1);
                due("sheet and lane", x.calls(k, lane, 0, 1, 0), 1);
            }
        }
    }

    private static void callsFaults() {
        StepBack x = lineOf(FIVE);
        fill(x, 1, INTS, 0, 1, 1, 2, 0);
        due("of another lane", x.calls(1, SHORTS, 0, 20, 0), CAST);
        due("fault", x.fault(), 2);
        due("nothing is no cast", x.calls(2, SHORTS, 0, 20, 0), NULL);
        due("fault", x.fault(), 1);
        due("two pairs", x.calls(1, INTS, 0, 2, 0), 2);
        due("fault", x.fault(), 0);
        due("half a pair more", x.calls(1, INTS, 0, 3, 0), INDEX);
        due("fault", x.fault(), 3);
        due("from 1 on", x.calls(1, INTS, 1, 2, 0), -101);
        due("from 2 on", x.calls(1, INTS, 2, 2, 0), INDEX);
        due("the last cell alone", x.calls(1, INTS, 4, 1, 0), INDEX);
        due("behind the last", x.calls(1, INTS, 5, 1, 0), INDEX);
        due("from below", x.calls(1, INTS, -1, 1, 0), INDEX);
        due("a sum that would wrap", x.calls(1, INTS, HIGH, 1, 0), INDEX);
        due("a sum that would wrap", x.calls(1, INTS, HIGH - 39, 20, 0), INDEX);
        due("from far below", x.calls(1, INTS, LOW, 20, 0), INDEX);
    }

    private static void callsWithoutALine() {
        StepBack x = new StepBack();
        fill(x, 1, INTS, 0, 1, 9, 9);
        for (int what = 0; what <= 3; what++) {
            due("no line", x.calls(1, INTS, 0, 1, what), STATE);
            due("no line, no pairs", x.calls(1, INTS, 4, 0, what), STATE);
            due("ahead of nobody", x.calls(1, INTS, 2, 1, what), STATE);
            due("a cast ahead of it", x.calls(1, BYTES, 0, 1, what), CAST);
            due("a fault", x.fault(), 2);
            due("again", x.calls(1, INTS, 0, 1, what), STATE);
            due("refused, so no fault", x.fault(), 0);
            due("nothing ahead of it", x.calls(0, BYTES, 0, 1, what), NULL);
            due("an index ahead of it", x.calls(1, INTS, 1, 2, what), INDEX);
            due("a length ahead of it", x.calls(1, INTS, 0, 21, what), OUTSIDE);
        }
    }

    private static void callsToldChangeNothing() {
        StepBack x = rich();
        fill(x, 3, BYTES, 0, 1, 2, 3, 2, 3);
        String before = shown(x);
        for (int what = 0; what <= 3; what++) {
            x.calls(3, BYTES, 0, 2, what);
            x.calls(3, BYTES, 0, 3, what);
        }
        dueSame("calls told", shown(x), before);
    }

    public static void main(String[] args) {
        goOfNobody();
        goOfOneAlone();
        goWithoutASecond();
        goWhereNobodySteps();
        leastThereIsNotAlways0();
        goFartherByOneAtATime();
        whoHeadsDoesNotStep();
        secondIsWhoHeadedTillThen();
        goAsFarAsAnyMay();
        whoIsDownDoesNotStep();
        morningWithoutALine();
        morningWithNobodyAndAllAway();
        morningLeavesTheRest();
        owesOneAndItself();
        owesNothingAtFirst();
        owesOneWayAndMoreEachTime();
        pays1And99();
        paysBeside1And99();
        paysOneMoreThanIsOwed();
        paysOneAndItself();
        paysOneAloneAndOneWay();
        paysWhoIsDown();
        callsOfNoPairs();
        callsOfTwentyPairs();
        callsBeside0And20Pairs();
        firstWrongAtTheFirstPair();
        firstWrongAtTheLastPair();
        wrongAsOneIsNotThere();
        wrongAsOneMayNotGoSoFar();
        wrongAsItIsNotFarther();
        whoHeadsMayBeToldAgain();
        aPairThatNamesNobody();
        personAndStepsAreCutByTheirSheet();
        whoWouldGoOn();
        callsWhats();
        callsOfNoSheetOrLane();
        callsFaults();
        callsWithoutALine();
        callsToldChangeNothing();
        end();
    }
}
