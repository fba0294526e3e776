/** Edges of promises 18 to 23: readings, what one may be by them, odds. */
public final class ReadingEdges extends Edges {
    private static final int ALL_DIGITS = 1023, ALL_KINDS = 7;

    private static void dueSets(StepBack x, int p, int hastes, int rooms, int kinds) {
        due("hastes of " + p, x.hastes(p), hastes);
        due("rooms of " + p, x.rooms(p), rooms);
        due("kinds of " + p, x.kinds(p), kinds);
    }

    // ---- promise 18

    private static void readingsOf8AtMost() {
        StepBack x = lineOf(FIVE);
        for (int k = 0; k < 8; k++) {
            due("its number", x.reading(4, 18, 0), k);
            due("how many", x.many(4), k + 1);
        }
        for (int again = 0; again < 3; again++) {
            due("a ninth", x.reading(4, 18, 1), FULL);
            due("how many", x.many(4), 8);
            due("the ninth is not read", x.hastes(4), ALL_DIGITS);
        }
        due("one less", x.back(1), 7);
        due("the eighth again", x.reading(0, 0, 1), 7);
        due("full again", x.reading(0, 0, 1), FULL);
    }

    private static void fullBehindTheOthers() {
        StepBack x = lineOf(FIVE);
        for (int k = 0; k < 8; k++) {
            x.reading(0, 18, 0);
        }
        due("unknown ahead of it", x.reading(5, 0, 0), UNKNOWN);
        due("unknown ahead of all", x.reading(-1, 19, 2), UNKNOWN);
        due("far ahead of it", x.reading(0, 19, 0), OUTSIDE);
        due("far ahead of it", x.reading(0, -1, 0), OUTSIDE);
        due("on ahead of it", x.reading(0, 0, 2), OUTSIDE);
        due("on ahead of it", x.reading(0, 0, -1), OUTSIDE);
        due("full", x.reading(0, 0, 0), FULL);
    }

    private static void readingBeside() {
        StepBack x = lineOf(FIVE);
        for (int far : beside(18)) {
            due("far " + far, x.reading(0, far, 0), OUTSIDE);
        }
        for (int on : beside(1)) {
            due("on " + on, x.reading(0, 0, on), OUTSIDE);
        }
        for (int p : beside(4)) {
            due("person " + p, x.reading(p, 0, 0), UNKNOWN);
            due("ahead of far", x.reading(p, 19, 0), UNKNOWN);
            due("ahead of on", x.reading(p, 0, 2), UNKNOWN);
        }
        due("none of them is one", x.many(4), 0);
        due("without a line", new StepBack().reading(0, 0, 0), UNKNOWN);
    }

    private static void readingAt0And18() {
        StepBack x = lineOf("m9;u99;u09");
        due("0 may go to 18, not farther", x.reading(0, 18, 0), 0);
        dueSets(x, 0, ALL_DIGITS, ALL_DIGITS, ALL_KINDS);
        due("it may not go farther than 18", x.reading(0, 18, 1), 1);
        dueSets(x, 0, 0, 0, 0);
        due("both are taken back", x.back(2), 0);
        due("it may go farther than 0", x.reading(0, 0, 1), 0);
        dueSets(x, 0, ALL_DIGITS - 1, ALL_DIGITS, ALL_KINDS);
        x.back(1);
        due("1 may not", x.reading(1, 0, 0), 0);
        dueSets(x, 1, 1, ALL_DIGITS, ALL_KINDS);
        x.back(1);
        due("0 may go farther than 17", x.reading(0, 17, 1), 0);
        dueSets(x, 0, 512, 512, 2);
    }

    // ---- promise 19

    private static void backByNoneAndByAll() {
        StepBack x = lineOf(FIVE);
        due("none of none", x.back(0), 0);
        for (int k = 0; k < 8; k++) {
            x.reading(0, k, 0);
        }
        due("none of eight", x.back(0), 8);
        due("all of eight", x.back(8), 0);
        due("none is left", x.many(4), 0);
        due("the first again", x.reading(0, 0, 1), 0);
        due("all of one", x.back(1), 0);
    }

    private static void backByMoreThanThereAre() {
        StepBack x = lineOf(FIVE);
        due("one of none", x.back(1), OUTSIDE);
        for (int k = 0; k < 8; k++) {
            x.reading(0, 18, 0);
            for (int back : beside(k + 1)) {
                due("back " + back, x.back(back), OUTSIDE);
            }
            due("all stay", x.many(4), k + 1);
        }
        StepBack none = new StepBack();
        due("without a line", none.back(0), 0);
        for (int back : beside(0)) {
            due("without a line", none.back(back), OUTSIDE);
        }
    }

    private static void backTakesTheLast() {
        StepBack x = lineOf(FIVE);
        x.reading(0, 4, 1);
        x.reading(0, 2, 0);
        due("no haste does for both", x.hastes(0), 0);
        due("one is left", x.back(1), 1);
        due("the first one", x.hastes(0), 992);
        due("another one in its place", x.reading(0, 3, 1), 1);
        due("both", x.hastes(0), 992);
    }

    // ---- promises 20, 21, 22

    private static void setsWithoutReadings() {
        StepBack x = lineOf(SIX);
        for (int p = 0; p < 6; p++) {
            dueSets(x, p, ALL_DIGITS, ALL_DIGITS, ALL_KINDS);
        }
        x.reading(0, 0, 0);
        x.back(1);
        dueSets(x, 0, ALL_DIGITS, ALL_DIGITS, ALL_KINDS);
    }

    private static void theEmptySet() {
        StepBack x = lineOf(FIVE);
        x.reading(0, 4, 1);
        x.reading(0, 4, 0);
        for (int p = 0; p < 5; p++) {
            dueSets(x, p, 0, 0, 0);
        }
    }

    private static void theWholeSet() {
        StepBack x = lineOf("m0;p00;l00");
        x.reading(0, 0, 0);
        x.reading(1, 0, 0);
        for (int p = 0; p < 2; p++) {
            dueSets(x, p, ALL_DIGITS, ALL_DIGITS, ALL_KINDS);
        }
    }

    /** By haste 5 and room 3 on ground 2: room and ground hold it at 5. */
    private static void hastesInPlaceOfItsOwn() {
        StepBack x = lineOf("m2;p53;u47");
        int[] due = {1022, 1020, 1016, 1008, 992, 0};
        for (int far = 0; far <= 5; far++) {
            x.reading(0, far, 1);
            due("farther than " + far, x.hastes(0), due[far]);
            x.back(1);
            x.reading(0, far, 0);
            due("not farther than " + far, x.hastes(0), ALL_DIGITS & ~due[far]);
            x.back(1);
        }
        x.reading(1, 3, 1);
        due("a proud one", x.hastes(1), 1020);
        x.back(1);
        x.reading(1, 8, 1);
        due("a proud one by 5, 6 .. 9", x.hastes(1), 992);
    }

    private static void hastesOfALameOneAreCut() {
        StepBack x = lineOf("m9;l09;p00");
        x.reading(0, 0, 0);
        due("0 and 1", x.hastes(0), 3);
        x.back(1);
        x.reading(0, 3, 1);
        due("8 and 9", x.hastes(0), 768);
    }

    private static void roomsInPlaceOfItsOwn() {
        StepBack x = lineOf("m2;p53;u47");
        int[] due = {1023, 1023, 1022, 1020, 1016, 0};
        for (int far = 0; far <= 5; far++) {
            x.reading(0, far, 1);
            due("farther than " + far, x.rooms(0), due[far]);
            x.back(1);
            x.reading(0, far, 0);
            due("not farther than " + far, x.rooms(0), ALL_DIGITS & ~due[far]);
            x.back(1);
        }
        StepBack most = lineOf("m0;u90;p00");
        most.reading(0, 8, 1);
        due("room 9 alone", most.rooms(0), 512);
        most.lease(9);
        due("ground is enough", most.rooms(0), ALL_DIGITS);
        most.back(1);
        most.lease(0);
        most.reading(0, 0, 0);
        due("room 0 alone", most.rooms(0), 1);
    }

    private static void kindsInPlaceOfItsOwn() {
        StepBack x = lineOf("m9;p49;p00");
        int[] due = {7, 7, 3, 3, 2, 2, 2, 2, 0};
        for (int far = 0; far <= 8; far++) {
            x.reading(0, far, 1);
            due("farther than " + far, x.kinds(0), due[far]);
            x.back(1);
            x.reading(0, far, 0);
            due("not farther than " + far, x.kinds(0), ALL_KINDS & ~due[far]);
            x.back(1);
        }
        x.reading(0, 2, 1);
        x.reading(0, 6, 0);
        due("plain alone", x.kinds(0), 1);
    }

    private static void allReadingsMustBeSo() {
        StepBack x = lineOf(FIVE);
        x.reading(0, 2, 1);
        x.reading(0, 4, 0);
        due("haste 3 and 4", x.hastes(0), 24);
        due("another's are all", x.hastes(1), 0);
        x.hurry(0, 3);
        due("as 0 is read so", x.hastes(1), ALL_DIGITS);
        dueSets(x, 0, 24, 1022, 1);
    }

    /** MAYs 5 and 8: what is read of 0 is so, what is read of 1 is not. */
    private static void readingsOfOthersMustBeSo() {
        StepBack x = lineOf(FIVE);
        x.reading(0, 4, 1);
        x.reading(1, 8, 1);
        dueSets(x, 0, 0, 0, 0);
        dueSets(x, 1, 992, 0, 0);
        dueSets(x, 2, 0, 0, 0);
        x.hurry(1, 5);
        dueSets(x, 0, 992, 1016, 3);
        dueSets(x, 1, 992, 128 + 256 + 512, 2);
        dueSets(x, 2, ALL_DIGITS, ALL_DIGITS, ALL_KINDS);
    }

    private static void setsOfOneWhoIsDown() {
        StepBack x = lineOf(FIVE);
        x.reading(1, 7, 1);
        int hastes = x.hastes(1);
        due("haste 4 .. 9", hastes, 1008);
        due("1 goes", x.go(), 1);
        due("as before", x.hastes(1), hastes);
        due("read again", x.reading(1, 8, 0), 1);
        due("haste 4", x.hastes(1), 16);
    }

    private static void setsChangeNothing() {
        StepBack x = rich();
        String before = shown(x);
        for (int p = 0; p < 5; p++) {
            x.hastes(p);
            x.rooms(p);
            x.kinds(p);
        }
        dueSame("sets", shown(x), before);
    }

    private static void setsOfNobody() {
        StepBack x = lineOf(FIVE);
        for (int p : beside(4)) {
            dueSets(x, p, UNKNOWN, UNKNOWN, UNKNOWN);
        }
        dueSets(x, 4, ALL_DIGITS, ALL_DIGITS, ALL_KINDS);
        dueSets(lineOf("m0;p00;p00"), 2, UNKNOWN, UNKNOWN, UNKNOWN);
    }

    // ---- promise 23

    private static void dueOdds(StepBack x, int p, int upper, int lower) {
        due("upper of " + p, x.odds(p, 0), upper);
        due("lower of " + p, x.odds(p, 1), lower);
    }

    /** Where nobody steps, one goes if it is there and nobody ahead of it is. */
    private static void oddsFromAHalfToTheLeast() {
        StepBack x = lineOf("m0;p00;p00;p00;p00;p00;p00");
        for (int p = 0; p < 6; p++) {
            dueOdds(x, p, 1, 2 << p);
        }
        StepBack two = lineOf("m0;p00;p00");
        dueOdds(two, 0, 1, 2);
        dueOdds(two, 1, 1, 4);
    }

    private static void oddsAreNever0() {
        for (String text : new String[] {"m0;p00;p99;p99;p99;p99;p99", "m9;l00;u99", SIX, FIVE}) {
            StepBack x = lineOf(text);
            for (int p = 0; p < x.many(0); p++) {
                due("alone it goes", x.odds(p, 0) >= 1 ? 1 : 0, 1);
                due("so the lower number is above it", x.odds(p, 1) > x.odds(p, 0) ? 1 : 0, 1);
            }
        }
        dueOdds(lineOf("m0;p00;p99;p99;p99;p99;p99"), 0, 1, 64);
    }

    /** 1 goes first by all sets it is in, and 2 by that of both others; the empty set is one of the eight. */
    private static void oddsOfAllSetsAlike() {
        StepBack x = lineOf("m0;p11;p99;p22");
        dueOdds(x, 1, 1, 2);
        dueOdds(x, 2, 1, 4);
        dueOdds(x, 0, 1, 8);
    }

    private static void oddsInLeastTerms() {
        for (String text : new String[] {FIVE, SIX, "m9;p69;p69;p69;p69;p69;p69", "m5;p33;u31;l99;p42"}) {
            StepBack x = lineOf(text);
            int whole = 1 << x.many(0);
            long sum = 0;
            for (int p = 0; p < x.many(0); p++) {
                long upper = x.odds(p, 0);
                long lower = x.odds(p, 1);
                due("least terms", upper % 2, 1);
                due("a part of all sets", whole % lower, 0);
                sum += upper * (whole / lower);
            }
            due("of all sets but the empty one", sum, whole - 1);
        }
        // By how many sets each goes: 6, 9, 10, 10, 11, 17.
        StepBack x = lineOf("m9;p69;p69;p69;p69;p69;p69");
        int[] upper = {3, 9, 5, 5, 11, 17};
        int[] lower = {32, 64, 32, 32, 64, 64};
        for (int p = 0; p < 6; p++) {
            dueOdds(x, p, upper[p], lower[p]);
        }
    }

    private static void oddsInPlaceOfThoseWhoAre() {
        StepBack x = lineOf("m0;p11;p99;p22");
        while (x.many(2) > 0) {
            x.go();
            dueOdds(x, 1, 1, 2);
        }
    }

    private static void oddsLost() {
        StepBack x = lineOf(FIVE);
        for (int which : beside(1)) {
            due("which " + which, x.odds(0, which), LOST);
        }
        for (int p : beside(4)) {
            due("person " + p, x.odds(p, 0), LOST);
            due("person " + p, x.odds(p, 1), LOST);
        }
        due("without a line", new StepBack().odds(0, 0), LOST);
        due("a fault", x.put(3, 0, 0), NULL);
        x.odds(9, 0);
        x.odds(0, 9);
        due("odds name no faults", x.fault(), 1);
    }

    public static void main(String[] args) {
        readingsOf8AtMost();
        fullBehindTheOthers();
        readingBeside();
        readingAt0And18();
        backByNoneAndByAll();
        backByMoreThanThereAre();
        backTakesTheLast();
        setsWithoutReadings();
        theEmptySet();
        theWholeSet();
        hastesInPlaceOfItsOwn();
        hastesOfALameOneAreCut();
        roomsInPlaceOfItsOwn();
        kindsInPlaceOfItsOwn();
        allReadingsMustBeSo();
        readingsOfOthersMustBeSo();
        setsOfOneWhoIsDown();
        setsChangeNothing();
        setsOfNobody();
        oddsFromAHalfToTheLeast();
        oddsAreNever0();
        oddsOfAllSetsAlike();
        oddsInLeastTerms();
        oddsInPlaceOfThoseWhoAre();
        oddsLost();
        end();
    }
}
