/** Edges of promises 12 to 17: orders, what haste is lost, least room, clearings, who was there. */
public final class OrderEdges extends Edges {
    private static final String ALIKE = "m0;p00;p00;p00;p00;p00;p00";

    // ---- promise 12

    private static void orderFrom0To5() {
        StepBack x = lineOf(ALIKE);
        for (int k = 0; k <= 5; k++) {
            due("the " + k + "-th", x.order(k, 0), k);
            due("at no steps", x.order(k, 1), 0);
        }
        for (int k : beside(5)) {
            due("k " + k, x.order(k, 0), OUTSIDE);
            due("k " + k, x.order(k, 1), OUTSIDE);
        }
        for (int what : beside(1)) {
            due("what " + what, x.order(0, what), OUTSIDE);
        }
    }

    private static void orderOfAsManyAsAreThere() {
        StepBack x = lineOf(ALIKE);
        for (int gone = 0; gone <= 6; gone++) {
            for (int k = 0; k <= 5; k++) {
                due("the " + k + "-th of " + (6 - gone), x.order(k, 0), k < 6 - gone ? gone + k : NONE);
                due("its steps", x.order(k, 1), k < 6 - gone ? 0 : NONE);
            }
            x.go();
        }
        due("nobody is there", x.many(2), 0);
        due("k is outside all the same", x.order(6, 0), OUTSIDE);
        StepBack two = lineOf("m0;p00;p00");
        due("the last", two.order(1, 0), 1);
        due("one behind", two.order(2, 0), NONE);
        due("one behind", two.order(2, 1), NONE);
    }

    private static void orderWithoutALine() {
        StepBack x = new StepBack();
        for (int k = 0; k <= 5; k++) {
            due("no line", x.order(k, 0), STATE);
            due("no line", x.order(k, 1), STATE);
            due("what ahead of it", x.order(k, 2), OUTSIDE);
        }
        due("k ahead of it", x.order(-1, 0), OUTSIDE);
        due("k ahead of it", x.order(6, 0), OUTSIDE);
    }

    /** All behind the first of them without those who went ahead. */
    private static void orderCallByCall() {
        StepBack x = lineOf("m9;p29;p99;p39");
        int[] due = {1, 4, 2, 2, 0, 1};
        for (int k = 0; k < 3; k++) {
            due("who", x.order(k, 0), due[2 * k]);
            due("steps", x.order(k, 1), due[2 * k + 1]);
        }
        for (int k = 0; k < 3; k++) {
            due("as they go", x.go(), due[2 * k]);
        }
    }

    private static void ordersChangeNothing() {
        StepBack x = rich();
        String before = shown(x);
        for (int k = 0; k <= 5; k++) {
            x.order(k, 0);
            x.let(0, k);
        }
        x.loss(0);
        x.loss(1);
        x.balance(0);
        x.cleared(0);
        x.cleared(1);
        x.were(0, 5, 2);
        x.odds(0, 0);
        dueSame("what is asked alone", shown(x), before);
    }

    // ---- promise 13

    private static void lossOfNobodyAndOfOne() {
        StepBack x = lineOf("m0;p99;p99");
        due("of two", x.loss(0) * 10 + x.loss(1), 99);
        x.go();
        due("of one", x.loss(0), 0);
        due("of one, at best", x.loss(1), 0);
        x.go();
        due("of nobody", x.loss(0), 0);
        due("of nobody, at best", x.loss(1), 0);
    }

    private static void lossOfHaste0() {
        StepBack x = lineOf(ALIKE);
        due("loss", x.loss(0), 0);
        due("least", x.loss(1), 0);
        StepBack most = lineOf("m0;p99;p99;p99;p99;p99;p99");
        due("loss of all in haste", most.loss(0), 9 * 15);
        due("least of all in haste", most.loss(1), 9 * 15);
    }

    /** 1 goes first, as 0 has no room; at best 0 would. */
    private static void lossMoreThanTheLeast() {
        StepBack x = lineOf("m0;p90;u11");
        due("1 goes first", x.order(0, 0), 1);
        due("loss", x.loss(0), 9);
        due("least", x.loss(1), 1);
        StepBack three = lineOf("m0;p50;p70;p33");
        due("loss: 2, 0, 1", three.loss(0), 5 + 14);
        due("least: 1, 0, 2", three.loss(1), 5 + 6);
    }

    private static void lossByHasteNotByWould() {
        StepBack x = lineOf("m0;u50;l90;p10");
        due("0, 1, 2 at no steps", x.order(2, 0), 2);
        due("loss", x.loss(0), 9 + 2);
        due("least: 1, 0, 2", x.loss(1), 5 + 2);
    }

    private static void lossWhats() {
        StepBack x = lineOf(FIVE);
        for (int what : beside(1)) {
            due("what " + what, x.loss(what), OUTSIDE);
            due("ahead of state", new StepBack().loss(what), OUTSIDE);
        }
        due("no line", new StepBack().loss(0), STATE);
        due("no line", new StepBack().loss(1), STATE);
    }

    // ---- promise 14

    private static void letFrom0To5() {
        StepBack x = lineOf(ALIKE);
        for (int k = 0; k <= 5; k++) {
            for (int p = 0; p <= 5; p++) {
                due("let(" + p + ", " + k + ")", x.let(p, k), p <= k ? 0 : NONE);
            }
        }
        for (int k : beside(5)) {
            due("k " + k, x.let(0, k), OUTSIDE);
        }
    }

    private static void letOfAsManyAsAreThere() {
        StepBack x = lineOf("m0;p00;p00;p00");
        due("not among the first two", x.let(2, 1), NONE);
        for (int k = 2; k <= 5; k++) {
            due("all are gone by then", x.let(2, k), 0);
        }
        x.go();
        due("not the first", x.let(2, 0), NONE);
        due("two are there", x.let(2, 1), 0);
        x.go();
        due("alone", x.let(2, 0), 0);
    }

    /** 0 and 1 by turns, 1 to 8: 0 must go to 9. */
    private static void letBy9() {
        StepBack x = lineOf("m0;p90;p98");
        due("by 9", x.let(0, 0), 9);
        due("second by 0", x.let(0, 1), 0);
        x.wall(0, 9);
        due("it goes first then", x.order(0, 0), 0);
        x.wall(0, 8);
        due("by one less it does not", x.order(0, 0), 1);
        due("a proud one, too", lineOf("m0;u90;p99").let(0, 0), 9);
    }

    private static void letBy0() {
        StepBack x = lineOf("m9;p98;p19");
        due("ground is enough", x.let(0, 0), 0);
        StepBack alone = lineOf("m0;p00;p00");
        due("the least goes where nobody steps", alone.let(0, 0), 0);
    }

    private static void letByNone() {
        StepBack x = lineOf("m0;p89;p98");
        due("8 steps are not enough", x.let(0, 0), NONE);
        due("second by 0", x.let(0, 1), 0);
        StepBack still = lineOf("m0;p09;p01");
        due("no haste, and 0 is ahead", still.let(1, 0), NONE);
        due("second by 0", still.let(1, 1), 0);
        due("9 steps are not enough against 18", lineOf("m9;p99;u99").let(0, 0), NONE);
    }

    /** As going down with each room in turn tells it. */
    private static void letIsTheLeastThatDoes() {
        for (String text : new String[] {"m0;p99;p24;p33", "m0;p93;p44;p31", FIVE, SIX, "m1;u92;l95;p66;p71"}) {
            StepBack x = lineOf(text);
            for (int p = 0; p < x.many(0); p++) {
                for (int k = 0; k < 3; k++) {
                    due("let(" + p + ", " + k + ") of " + text, x.let(p, k), leastRoom(text, p, k));
                }
            }
        }
    }

    private static int leastRoom(String text, int p, int k) {
        for (int room = 0; room <= 9; room++) {
            StepBack x = lineOf(text);
            x.wall(p, room);
            for (int ahead = 0; ahead <= k; ahead++) {
                if (x.go() == p) {
                    return room;
                }
            }
        }
        return NONE;
    }

    private static void letIsOfItsOwnRoomAlone() {
        StepBack x = lineOf("m0;p99;p98");
        due("by 9, though it has it", x.let(0, 0), 9);
        due("its room stays", x.ofPerson(0, 2), 9);
        due("by none", x.let(1, 0), NONE);
        due("the other's room stays", x.ofPerson(0, 2) * 10 + x.ofPerson(1, 2), 98);
    }

    private static void letOfOneWhoIsNotThere() {
        StepBack x = lineOf(STILL);
        x.go();
        due("not there", x.let(0, 0), STATE);
        due("not there", x.let(0, 5), STATE);
        due("k ahead of it", x.let(0, 6), OUTSIDE);
        due("k ahead of it", x.let(0, -1), OUTSIDE);
        due("those who are", x.let(1, 0), 0);
        for (int p : beside(2)) {
            due("nobody", x.let(p, 0), UNKNOWN);
            due("ahead of k", x.let(p, 6), UNKNOWN);
        }
        x.morning();
        due("there again", x.let(0, 0), 0);
    }

    // ---- promise 15

    private static void balanceOf0() {
        StepBack x = lineOf(SIX);
        for (int p = 0; p < 6; p++) {
            due("balance", x.balance(p), 10000);
        }
        for (int p : beside(5)) {
            due("nobody", x.balance(p), UNKNOWN);
        }
        due("without a line", new StepBack().balance(0), UNKNOWN);
    }

    private static void balanceAboveAndBelow() {
        StepBack x = lineOf("m9;u99;u99;p00");
        for (int k = 1; k <= 60; k++) {
            x.go();
            x.morning();
            due("is owed", x.balance(0), 10000 + 18 * k);
            due("owes", x.balance(1), 10000 - 18 * k);
        }
        due("neither", x.balance(2), 10000);
        due("pays", x.pays(1, 0, 80), 1000);
        due("is owed", x.balance(0), 11000);
        due("owes", x.balance(1), 9000);
    }

    // ---- promise 16

    private static void clearedWhereNothingIsOwed() {
        StepBack x = lineOf(SIX);
        due("steps", x.cleared(0), 0);
        due("payments", x.cleared(1), 0);
        StepBack paid = lineOf("m9;u99;u99");
        paid.go();
        due("steps", paid.cleared(0) * 10 + paid.cleared(1), 181);
        paid.pays(1, 0, 18);
        due("paid", paid.cleared(0) + paid.cleared(1), 0);
    }

    /** 1 owes 0, 2 owes 1, 0 owes 2, two steps each. */
    private static void clearedWhereAllOweAlikeInARing() {
        StepBack x = lineOf(STILL);
        due("1 goes", goOf(x, 0, 2, 1, 2), 1);
        due("2 goes", goOf(x, 1, 2, 2, 2), 2);
        due("two payments in one", x.cleared(0) * 10 + x.cleared(1), 21);
        due("0 goes", goOf(x, 0, 3, 2, 2), 0);
        due("a step too many", x.cleared(0) * 10 + x.cleared(1), 11);
        due("pays it", x.pays(0, 2, 1), 2);
        for (int p = 0; p < 3; p++) {
            due("owes", x.ofPerson(p, 6), 2);
            due("balance 0", x.balance(p), 10000);
        }
        due("steps", x.cleared(0), 0);
        due("payments", x.cleared(1), 0);
    }

    private static void clearedByThreePairs() {
        StepBack x = lineOf(ALIKE);
        due("1 goes", goOf(x, 0, 2, 1, 2), 1);
        due("3 goes", goOf(x, 2, 4, 3, 4), 3);
        due("5 goes", goOf(x, 4, 6, 5, 6), 5);
        due("steps", x.cleared(0), 12);
        due("payments", x.cleared(1), 3);
    }

    /** At last 2 is owed 4 and 1 owes 4: one payment clears them, though 1 never owed it to 2. */
    private static void clearedByAnybodyToAnybody() {
        StepBack x = lineOf(ALIKE);
        due("1 goes", goOf(x, 0, 4, 1, 4), 1);
        due("3 goes", goOf(x, 2, 6, 3, 6), 3);
        due("3 goes", goOf(x, 0, 2, 3, 2), 3);
        // 0 is owed 6, 2 is owed 6; 1 owes 4, 3 owes 8.
        due("steps", x.cleared(0), 12);
        due("payments", x.cleared(1), 3);
        due("2 goes", goOf(x, 2, 3, 4, 2), 2);
        due("pays", x.pays(2, 4, 1), 2);
        // 0 is owed 6, 2 is owed 4, 4 is owed 2; 1 owes 4, 3 owes 8: 1 pays 2, 3 pays 0 and 4.
        due("steps", x.cleared(0), 12);
        due("payments", x.cleared(1), 3);
    }

    /** 1 to 5 owe 0, so each of them pays. */
    private static void clearedByFivePayments() {
        StepBack x = lineOf("m9;p00;p00;p00;p00;p00;p00");
        for (int p = 1; p <= 5; p++) {
            due("goes", goOf(x, 0, 2, p, 2), p);
        }
        due("steps", x.cleared(0), 10);
        due("payments", x.cleared(1), 5);
    }

    private static void clearedWhats() {
        StepBack x = lineOf(FIVE);
        for (int what : beside(1)) {
            due("what " + what, x.cleared(what), OUTSIDE);
            due("ahead of state", new StepBack().cleared(what), OUTSIDE);
        }
        due("no line", new StepBack().cleared(0), STATE);
        due("no line", new StepBack().cleared(1), STATE);
    }

    // ---- promise 17

    private static void wereNoSetAtAll() {
        StepBack x = lineOf("m9;p99;p01");
        due("1 never steps", x.were(1, 1, 0), 0);
        due("there is no least", x.were(1, 1, 1), NONE);
        due("there is nobody in all", x.were(1, 1, 2), NONE);
        due("alone, at no steps", x.were(1, 0, 0), 1);
        due("0 steps once", x.were(0, 1, 0), 2);
        due("0 never more", x.were(0, 2, 0), 0);
    }

    private static void wereFrom0To18() {
        StepBack x = lineOf("m9;u99;u99");
        due("at 18", x.were(1, 18, 0), 1);
        due("at 18", x.were(1, 18, 1), 3);
        due("at 18", x.were(1, 18, 2), 3);
        due("0 not at 18", x.were(0, 18, 0), 0);
        due("none at 0", x.were(1, 0, 0), 0);
        due("alone at 1", x.were(1, 1, 1), 2);
        for (int v = 2; v <= 17; v++) {
            due("none at " + v, x.were(1, v, 0), 0);
        }
        for (int v : beside(18)) {
            due("v " + v, x.were(1, v, 0), OUTSIDE);
        }
    }

    private static void wereWhats() {
        StepBack x = lineOf(STILL);
        for (int what : beside(2)) {
            due("what " + what, x.were(0, 0, what), OUTSIDE);
            due("what " + what + " of none", x.were(0, 1, what), OUTSIDE);
        }
        for (int p : beside(2)) {
            due("nobody", x.were(p, 0, 0), UNKNOWN);
            due("ahead of v", x.were(p, 19, 0), UNKNOWN);
            due("ahead of what", x.were(p, 0, 3), UNKNOWN);
        }
        due("without a line", new StepBack().were(0, 0, 0), UNKNOWN);
    }

    private static void wereAmongSixWhoDoNotStep() {
        StepBack x = lineOf(ALIKE);
        for (int p = 0; p < 6; p++) {
            due("all sets of those behind it", x.were(p, 0, 0), 1 << (5 - p));
            due("it alone", x.were(p, 0, 1), 1 << p);
            due("it alone is in all", x.were(p, 0, 2), 1 << p);
        }
    }

    /** Six who may go to 6: the last of two, of three, of six comes to it. */
    private static void wereAllSetsThatHaveAny() {
        StepBack x = lineOf("m9;p69;p69;p69;p69;p69;p69");
        due("how many", x.were(5, 6, 0), 5 + 10 + 1);
        due("the least", x.were(5, 6, 1), 33);
        due("in all", x.were(5, 6, 2), 32);
        int sum = 0;
        for (int p = 0; p < 6; p++) {
            for (int v = 0; v <= 18; v++) {
                sum += x.were(p, v, 0);
            }
        }
        due("one goes first of each set that has any", sum, 63);
    }

    private static void wereInPlaceOfThoseWhoAre() {
        StepBack x = lineOf(FIVE);
        int before = x.were(1, 5, 0) * 10000 + x.were(1, 5, 1) * 100 + x.were(1, 5, 2);
        due("were", before, 40707);
        while (x.many(2) > 0) {
            x.go();
            due("were", x.were(1, 5, 0) * 10000 + x.were(1, 5, 1) * 100 + x.were(1, 5, 2), before);
        }
    }

    /** 0 goes at 3 past 1, past 2, and past both. */
    private static void wereTheLeastAndThoseInAll() {
        StepBack x = lineOf("m9;p90;p20;p20");
        due("how many", x.were(0, 3, 0), 3);
        due("the least as a number", x.were(0, 3, 1), 3);
        due("0 alone is in all", x.were(0, 3, 2), 1);
    }

    /** MAYs 1, 2, 3, 2: 2 comes to 3 past 0 and 1 (7), past 3 alone (12), past all (15). */
    private static void wereTheLeastAsANumber() {
        StepBack x = lineOf("m0;p11;p22;p33;p22");
        due("how many", x.were(2, 3, 0), 3);
        due("the least as a number, not by how many it has", x.were(2, 3, 1), 7);
        due("2 alone is in all", x.were(2, 3, 2), 4);
    }

    public static void main(String[] args) {
        orderFrom0To5();
        orderOfAsManyAsAreThere();
        orderWithoutALine();
        orderCallByCall();
        ordersChangeNothing();
        lossOfNobodyAndOfOne();
        lossOfHaste0();
        lossMoreThanTheLeast();
        lossByHasteNotByWould();
        lossWhats();
        letFrom0To5();
        letOfAsManyAsAreThere();
        letBy9();
        letBy0();
        letByNone();
        letIsTheLeastThatDoes();
        letIsOfItsOwnRoomAlone();
        letOfOneWhoIsNotThere();
        balanceOf0();
        balanceAboveAndBelow();
        clearedWhereNothingIsOwed();
        clearedWhereAllOweAlikeInARing();
        clearedByThreePairs();
        clearedByAnybodyToAnybody();
        clearedByFivePayments();
        clearedWhats();
        wereNoSetAtAll();
        wereFrom0To18();
        wereWhats();
        wereAmongSixWhoDoNotStep();
        wereAllSetsThatHaveAny();
        wereInPlaceOfThoseWhoAre();
        wereTheLeastAndThoseInAll();
        wereTheLeastAsANumber();
        end();
    }
}
