/** Edges of promises 1 to 6: the new object, texts, a person, haste, room, ground. */
public final class LineEdges extends Edges {

    // ---- promise 1

    private static void newObjectHasNoLine() {
        StepBack x = new StepBack();
        for (int p = -1; p <= 6; p++) {
            due("ofPerson", x.ofPerson(p, 0), UNKNOWN);
            due("hurry", x.hurry(p, 5), UNKNOWN);
            due("wall", x.wall(p, 5), UNKNOWN);
            due("owes", x.owes(p, p == 0 ? 1 : 0), UNKNOWN);
            due("pays", x.pays(p, p == 0 ? 1 : 0, 1), UNKNOWN);
            due("let", x.let(p, 0), UNKNOWN);
            due("balance", x.balance(p), UNKNOWN);
            due("were", x.were(p, 0, 0), UNKNOWN);
            due("reading", x.reading(p, 0, 0), UNKNOWN);
            due("hastes", x.hastes(p), UNKNOWN);
            due("rooms", x.rooms(p), UNKNOWN);
            due("kinds", x.kinds(p), UNKNOWN);
            due("odds", x.odds(p, 0), LOST);
            due("tell", x.tell(p), UNKNOWN);
            due("hear", x.hear(p), UNKNOWN);
            due("as", x.as(p, 0), UNKNOWN);
        }
        due("lease", x.lease(5), STATE);
        due("go", x.go(), STATE);
        due("morning", x.morning(), STATE);
        due("order", x.order(0, 0), STATE);
        due("loss", x.loss(0), STATE);
        due("cleared", x.cleared(0), STATE);
        due("back", x.back(0), 0);
        due("trace", x.trace(), 0);
        due("fault", x.fault(), 0);
    }

    private static void newObjectSheetsHaveNothing() {
        for (int k = 0; k < 4; k++) {
            StepBack x = new StepBack();
            due("cell", x.cell(k, 0, BYTES), LOST);
            due("fault of cell", x.fault(), 1);
            due("put", x.put(k, 0, 0), NULL);
            due("line", x.line(k, BYTES, 0, 0), NULL);
            due("calls", x.calls(k, BYTES, 0, 0, 0), NULL);
            due("copy", x.copy(k, 0, k, 0, 0), NULL);
            due("lose", x.lose(k), 0);
        }
    }

    // ---- promise 2: a text

    private static void textEndsTooSoon() {
        for (int n = 0; n <= SIX.length(); n++) {
            StepBack x = new StepBack();
            boolean isWhole = n >= 10 && n % 4 == 2;
            due("line of " + n + " codes", take(x, INTS, SIX.substring(0, n)), isWhole ? (n - 2) / 4 : -100 - n);
            due("people", x.many(0), isWhole ? (n - 2) / 4 : 0);
            due("fault", x.fault(), 0);
        }
    }

    private static void textEndsTooSoonOnALongerSheet() {
        StepBack x = new StepBack();
        fill(x, 0, BYTES, codes(SIX));
        for (int n = 0; n < 10; n++) {
            due("the cells behind are not of the text", x.line(0, BYTES, 0, n), -100 - n);
        }
    }

    private static void firstFaultIsTheFirstWrongCode() {
        for (int place = 0; place < SIX.length(); place++) {
            StepBack x = new StepBack();
            fill(x, 0, BYTES, codes(SIX));
            x.put(0, place, '!');
            due("a wrong code at " + place, x.line(0, BYTES, 0, SIX.length()), -100 - place);
            due("it is the last", x.line(0, BYTES, 0, place + 1), -100 - place);
            due("it is not of the text", x.line(0, BYTES, 0, place),
                place >= 10 && place % 4 == 2 ? (place - 2) / 4 : -100 - place);
            if (place + 1 < SIX.length()) {
                x.put(0, place + 1, '!');
                due("two wrong codes", x.line(0, BYTES, 0, SIX.length()), -100 - place);
            }
        }
    }

    /** Which codes go on at each place of a text of two. */
    private static void everyCodeAtEveryPlace() {
        String[] fits = {"m", "0123456789", ";", "pul", "0123456789", "0123456789", ";", "pul", "0123456789",
            "0123456789"};
        for (int place = 0; place < fits.length; place++) {
            for (int start = -128; start < 128; start += 64) {
                StepBack x = new StepBack();
                fill(x, 0, BYTES, codes("m0;p00;p00"));
                for (int code = start; code < start + 64; code++) {
                    x.put(0, place, code);
                    boolean fit = code > 0 && fits[place].indexOf(code) >= 0;
                    due("code " + code + " at " + place, x.line(0, BYTES, 0, 10), fit ? 2 : -100 - place);
                }
            }
        }
    }

    private static void codesAreCutByTheirSheetAlone() {
        int[] beyond = {256, 65536};
        for (int lane = BYTES; lane <= INTS; lane++) {
            for (int k = 0; k < beyond.length; k++) {
                StepBack x = new StepBack();
                fill(x, 0, lane, codes("m0;p00;p00"));
                x.put(0, 0, 'm' + beyond[k]);
                due("m and " + beyond[k] + " by lane " + lane, x.line(0, lane, 0, 10), lane <= k ? 2 : -100);
                x.put(0, 0, 'm' - beyond[k]);
                due("m less " + beyond[k] + " by lane " + lane, x.line(0, lane, 0, 10), lane <= k ? 2 : -100);
            }
        }
    }

    private static void seventhPersonIsAFault() {
        for (String more : new String[] {";", ";p", ";p00", ";p00;p00", "0", "m"}) {
            StepBack x = new StepBack();
            due("six and " + more, take(x, BYTES, SIX + more), -126);
            due("no people", x.many(0), 0);
        }
        StepBack x = new StepBack();
        x.sheet(0, BYTES, 60);
        int[] codes = codes(SIX);
        for (int i = 0; i < codes.length; i++) {
            x.put(0, i, codes[i]);
        }
        due("sixty cells", x.line(0, BYTES, 0, 60), -126);
        due("six of them", x.line(0, BYTES, 0, 26), 6);
    }

    private static void twoToSixPeople() {
        for (int many = 1; many <= 7; many++) {
            StepBack x = new StepBack();
            int got = take(x, SHORTS, "m5" + ";u11".repeat(many));
            boolean is = many >= 2 && many <= 6;
            due("line of " + many, got, is ? many : many == 1 ? -106 : -126);
            due("people", x.many(0), is ? many : 0);
            due("the last of them", x.ofPerson(many - 1, 0), is ? 1 : UNKNOWN);
            due("one behind", x.ofPerson(many, 0), UNKNOWN);
        }
    }

    private static void noCellsAtAll() {
        StepBack x = new StepBack();
        x.sheet(1, SHORTS, 0);
        due("of a sheet of none", x.line(1, SHORTS, 0, 0), -100);
        due("that is no fault of the machine", x.fault(), 0);
        due("line of two", take(x, BYTES, "m0;p00;p00"), 2);
        due("none from 0 on", x.line(0, BYTES, 0, 0), -100);
        due("none from the end on", x.line(0, BYTES, 10, 0), -100);
        due("none from the middle on", x.line(0, BYTES, 3, 0), -100);
        due("people stay", x.many(0), 2);
    }

    private static void digitsOf0And9() {
        for (int digit = 0; digit <= 9; digit++) {
            StepBack x = lineOf("m" + digit + ";p" + digit + digit + ";l" + (9 - digit) + digit);
            due("ground", x.many(1), digit);
            due("haste", x.ofPerson(0, 1), digit);
            due("room", x.ofPerson(0, 2), digit);
            due("haste of the last", x.ofPerson(1, 1), 9 - digit);
            due("room of the last", x.ofPerson(1, 2), digit);
        }
    }

    private static void besideTheDigits() {
        for (int place : new int[] {1, 4, 5, 24, 25}) {
            for (char beside : new char[] {'/', ':'}) {
                StepBack x = new StepBack();
                StringBuilder text = new StringBuilder(SIX);
                text.setCharAt(place, beside);
                due(text.toString(), take(x, BYTES, text.toString()), -100 - place);
            }
        }
    }

    private static void lettersOfTheKinds() {
        StepBack x = lineOf("m0;p11;u11;l11");
        for (int kind = 0; kind <= 2; kind++) {
            due("kind", x.ofPerson(kind, 0), kind);
        }
        for (char beside : new char[] {'o', 'q', 't', 'v', 'k', 'm', 'P', 'U', 'L', '0', ';'}) {
            due("letter " + beside, take(new StepBack(), BYTES, "m0;p11;" + beside + "11"), -107);
        }
    }

    private static void textTakenMakesAllAnew() {
        StepBack x = lineOf("m3;p99;p99;p99;p99;p99;p99");
        x.go();
        x.go();
        x.morning();
        x.go();
        x.reading(0, 1, 0);
        x.hurry(0, 1);
        x.wall(1, 1);
        x.lease(8);
        due("line again", x.line(0, BYTES, 0, 26), 6);
        due("ground", x.many(1), 3);
        due("all are there", x.many(2), 6);
        due("morning 0", x.many(3), 0);
        due("no readings", x.many(4), 0);
        for (int p = 0; p < 6; p++) {
            due("haste", x.ofPerson(p, 1), 9);
            due("room", x.ofPerson(p, 2), 9);
            due("there", x.ofPerson(p, 5), 1);
            due("owes", x.ofPerson(p, 6), 0);
            due("is owed", x.ofPerson(p, 7), 0);
            due("all hastes", x.hastes(p), 1023);
        }
        due("the first reading", x.reading(5, 0, 0), 0);
    }

    private static void textTakenForgetsWhatEachOwedToEach() {
        for (int p = 0; p < 6; p++) {
            for (int other = 0; other < 6; other++) {
                if (p != other) {
                    StepBack x = lineOf("m0;p00;p00;p00;p00;p00;p00");
                    due("goes", goOf(x, p, p < other ? 3 : 2, other, 2), p);
                    due("owes", x.owes(p, other), p < other ? 3 : 2);
                    due("line again", x.line(0, BYTES, 0, 26), 6);
                    due("owes nothing", x.owes(p, other), 0);
                    due("is owed nothing", x.ofPerson(other, 7), 0);
                    due("nothing is to be cleared", x.cleared(0) + x.cleared(1), 0);
                }
            }
        }
    }

    /** Who stands behind the new people is no person any more, and owes nothing when it is one again. */
    private static void fewerPeopleThanBefore() {
        StepBack x = lineOf("m9;p00;p00;p00;p00;p99;p99");
        due("4 and 5 by turns, 4 to 9", x.go(), 4);
        due("owes", x.owes(4, 5), 9);
        due("two people", take(x, BYTES, "m9;p11;p99"), 2);
        for (int p = 2; p <= 6; p++) {
            due("no person", x.ofPerson(p, 0), UNKNOWN);
            due("no person", x.owes(1, p), UNKNOWN);
        }
        due("nothing to clear", x.cleared(0) + x.cleared(1), 0);
        due("both are there", x.many(2), 2);
        due("sets of two", x.odds(0, 1) * 10 + x.odds(1, 1), 42);
        due("six people", take(x, BYTES, SIX), 6);
        due("4 owes nothing", x.ofPerson(4, 6) + x.ofPerson(5, 7), 0);
        due("six are there", x.many(2), 6);
    }

    private static void textWithAFirstFaultChangesNothing() {
        for (String text : new String[] {"", "m", "m0;p00", "m0;p00;p0", "m0;p00;p00;", "x0;p00;p00",
            "m0;p00;p0x", SIX + ";p00"}) {
            StepBack x = rich();
            fill(x, 3, BYTES, codes(text));
            String before = shown(x);
            due("line of " + text, x.line(3, BYTES, 0, text.length()) <= -100 ? 1 : 0, 1);
            due("no fault of the machine", x.fault(), 0);
            dueSame("line of " + text, shown(x), before);
        }
    }

    private static void textIsTakenAndItsSheetStays() {
        StepBack x = rich();
        String cells = shown(x).substring(shown(rich()).indexOf("sheet 0"));
        due("line", x.line(0, BYTES, 0, FIVE.length()), 5);
        String after = shown(x);
        dueSame("sheets", after.substring(after.indexOf("sheet 0")), cells);
    }

    // ---- promise 2: refusals and faults

    private static void lineOfNoSheet() {
        StepBack x = lineOf(FIVE);
        for (int k : beside(3)) {
            due("line(" + k + ")", x.line(k, BYTES, 0, 22), UNKNOWN);
            due("ahead of a lane", x.line(k, 3, 0, 22), UNKNOWN);
            due("ahead of a size", x.line(k, BYTES, -1, -1), UNKNOWN);
        }
        for (int k = 0; k < 4; k++) {
            fill(x, k, INTS, codes(STILL));
            due("line(" + k + ")", x.line(k, INTS, 0, 14), 3);
        }
    }

    private static void lineOfNoLane() {
        StepBack x = lineOf(FIVE);
        for (int lane : beside(2)) {
            due("lane " + lane, x.line(0, lane, 0, 22), OUTSIDE);
            due("ahead of nothing", x.line(1, lane, 0, 22), OUTSIDE);
            due("ahead of a size", x.line(0, lane, 0, -1), OUTSIDE);
            due("no fault", x.fault(), 0);
        }
    }

    private static void lineOfAnotherLane() {
        for (int lane = BYTES; lane <= INTS; lane++) {
            for (int as = BYTES; as <= INTS; as++) {
                StepBack x = new StepBack();
                fill(x, 0, lane, codes(FIVE));
                due("lane " + lane + " as " + as, x.line(0, as, 0, 22), lane == as ? 5 : CAST);
                due("fault", x.fault(), lane == as ? 0 : 2);
                due("ahead of a size", x.line(0, as, 0, -1), lane == as ? SIZE : CAST);
                due("ahead of an index", x.line(0, as, 23, 1), lane == as ? INDEX : CAST);
            }
        }
    }

    private static void lineOfNothingIsNoCast() {
        StepBack x = lineOf(FIVE);
        x.sheet(1, INTS, 5);
        x.lose(1);
        for (int lane = BYTES; lane <= INTS; lane++) {
            due("nothing that was of lane 2", x.line(1, lane, 0, 5), NULL);
            due("nothing", x.line(2, lane, 0, 0), NULL);
            due("ahead of a size", x.line(2, lane, 0, -1), NULL);
            due("ahead of an index", x.line(2, lane, 9, 1), NULL);
            due("fault", x.fault(), 1);
        }
    }

    private static void lineOfALengthBelow0() {
        StepBack x = lineOf(FIVE);
        for (int n : new int[] {-1, -2, LOW}) {
            due("n " + n, x.line(0, BYTES, 0, n), SIZE);
            due("fault", x.fault(), 4);
            due("ahead of an index", x.line(0, BYTES, -1, n), SIZE);
            due("ahead of an index", x.line(0, BYTES, HIGH, n), SIZE);
            due("from the end on", x.line(0, BYTES, 22, n), SIZE);
        }
    }

    private static void lineOfCellsThatAreNotThere() {
        StepBack x = lineOf(FIVE);
        due("all cells", x.line(0, BYTES, 0, 22), 5);
        due("one more", x.line(0, BYTES, 0, 23), INDEX);
        due("fault", x.fault(), 3);
        due("from 1 on", x.line(0, BYTES, 1, 22), INDEX);
        due("from 1 on, one less", x.line(0, BYTES, 1, 21), -100);
        due("from below", x.line(0, BYTES, -1, 22), INDEX);
        due("the last", x.line(0, BYTES, 21, 1), -100);
        due("behind the last", x.line(0, BYTES, 22, 1), INDEX);
        due("none behind the last", x.line(0, BYTES, 22, 0), -100);
        due("none one farther", x.line(0, BYTES, 23, 0), INDEX);
        due("none from below", x.line(0, BYTES, -1, 0), INDEX);
        due("none from far below", x.line(0, BYTES, LOW, 0), INDEX);
        due("none from far beyond", x.line(0, BYTES, HIGH, 0), INDEX);
    }

    private static void lineWhoseSumWouldWrap() {
        StepBack x = lineOf(FIVE);
        due("i at its most", x.line(0, BYTES, HIGH, 22), INDEX);
        due("n at its most", x.line(0, BYTES, 22, HIGH), INDEX);
        due("n at its most from 0 on", x.line(0, BYTES, 0, HIGH), INDEX);
        due("both at their most", x.line(0, BYTES, HIGH, HIGH), INDEX);
        due("i at its least", x.line(0, BYTES, LOW, HIGH), INDEX);
        due("i at its least", x.line(0, BYTES, LOW, 22), INDEX);
    }

    private static void faultOfTheMachineAheadOfTheText() {
        StepBack x = new StepBack();
        fill(x, 0, BYTES, 'x', 'x');
        due("a wrong code, and no cell", x.line(0, BYTES, 0, 3), INDEX);
        due("a wrong code", x.line(0, BYTES, 0, 2), -100);
        due("that is no fault", x.fault(), 0);
    }

    private static void faultOfLineChangesNothing() {
        int[][] wrong = {{4, 0, 0, 22}, {0, 3, 0, 22}, {0, 1, 0, 22}, {3, 0, 0, 22}, {0, 0, 0, -1}, {0, 0, 1, 22}};
        for (int[] w : wrong) {
            StepBack x = rich();
            String before = shown(x);
            x.line(w[0], w[1], w[2], w[3]);
            dueSame("line", shown(x), before);
        }
    }

    // ---- how far one would go, and may

    private static void wouldOfEachKind() {
        for (int haste = 0; haste <= 9; haste++) {
            StepBack x = lineOf("m9;p" + haste + "9;u" + haste + "9;l" + haste + "9");
            due("plain", x.ofPerson(0, 3), haste);
            due("proud", x.ofPerson(1, 3), haste + haste);
            due("lame, cut", x.ofPerson(2, 3), (haste - haste % 2) / 2);
        }
    }

    private static void mayNoMoreThanRoomAndGround() {
        StepBack x = lineOf("m0;p50;u50;l50");
        int[] would = {5, 10, 2};
        for (int room = 0; room <= 9; room++) {
            for (int ground = 0; ground <= 9; ground += 3) {
                x.lease(ground);
                for (int p = 0; p < 3; p++) {
                    x.wall(p, room);
                    due("may", x.ofPerson(p, 4), would[p] < room + ground ? would[p] : room + ground);
                    due("would stays", x.ofPerson(p, 3), would[p]);
                }
            }
        }
        due("as far as any may", lineOf("m9;u99;u98").ofPerson(0, 4), 18);
        due("one less room", lineOf("m9;u99;u98").ofPerson(1, 4), 17);
    }

    // ---- promise 3

    private static void ofPersonWhats() {
        StepBack x = lineOf(SIX);
        for (int p = 0; p < 6; p++) {
            for (int what : beside(7)) {
                due("what " + what, x.ofPerson(p, what), OUTSIDE);
            }
            due("what 0", x.ofPerson(p, 0) < 0 ? 1 : 0, 0);
            due("what 7", x.ofPerson(p, 7), 0);
        }
    }

    private static void ofPersonOfNobody() {
        for (String text : new String[] {"m2;p53;u47", FIVE, SIX}) {
            StepBack x = lineOf(text);
            int many = x.many(0);
            for (int p : beside(many - 1)) {
                due("person " + p, x.ofPerson(p, 0), UNKNOWN);
                due("ahead of what", x.ofPerson(p, 8), UNKNOWN);
            }
            due("the last", x.ofPerson(many - 1, 5), 1);
        }
    }

    private static void ofPersonWhetherThere() {
        StepBack x = lineOf("m0;p00;p00");
        due("there", x.ofPerson(0, 5) * 10 + x.ofPerson(1, 5), 11);
        x.go();
        due("0 is down", x.ofPerson(0, 5) * 10 + x.ofPerson(1, 5), 1);
        x.go();
        due("both are down", x.ofPerson(0, 5) * 10 + x.ofPerson(1, 5), 0);
        x.morning();
        due("a morning", x.ofPerson(0, 5) * 10 + x.ofPerson(1, 5), 11);
    }

    /** By 3 to one and 2 to another, and owed 4 by a third. */
    private static void ofPersonStepsOwedToAll() {
        StepBack x = lineOf("m9;p00;p00;p00;p00");
        due("1 goes", goOf(x, 0, 2, 1, 2), 1);
        due("1 goes", goOf(x, 1, 3, 2, 2), 1);
        due("3 goes", goOf(x, 1, 4, 3, 4), 3);
        due("owes in all", x.ofPerson(1, 6), 2 + 3);
        due("is owed in all", x.ofPerson(1, 7), 4);
        due("owes nothing", x.ofPerson(0, 6), 0);
        due("is owed", x.ofPerson(0, 7), 2);
        due("is owed", x.ofPerson(2, 7), 3);
        due("owes", x.ofPerson(3, 6), 4);
        due("is owed nothing", x.ofPerson(3, 7), 0);
    }

    // ---- promises 4, 5, 6

    private static void hurryBy0And9() {
        StepBack x = lineOf("m2;p53;u47");
        due("becomes 0", x.hurry(0, 0), 5);
        due("haste", x.ofPerson(0, 1), 0);
        due("becomes 9", x.hurry(0, 9), 0);
        due("haste", x.ofPerson(0, 1), 9);
        due("becomes what it is", x.hurry(0, 9), 9);
        due("the other's stays", x.ofPerson(1, 1), 4);
        due("the last", x.hurry(1, 1), 4);
        due("would", x.ofPerson(1, 3), 2);
    }

    private static void hurryBeside() {
        StepBack x = lineOf("m2;p53;u47");
        for (int v : beside(9)) {
            due("v " + v, x.hurry(0, v), OUTSIDE);
            due("haste stays", x.ofPerson(0, 1), 5);
        }
        for (int p : beside(1)) {
            due("person " + p, x.hurry(p, 5), UNKNOWN);
            due("ahead of v", x.hurry(p, 10), UNKNOWN);
        }
    }

    private static void wallBy0And9() {
        StepBack x = lineOf("m2;p53;u47");
        due("becomes 0", x.wall(0, 0), 3);
        due("room", x.ofPerson(0, 2), 0);
        due("may", x.ofPerson(0, 4), 2);
        due("becomes 9", x.wall(0, 9), 0);
        due("room", x.ofPerson(0, 2), 9);
        due("becomes what it is", x.wall(0, 9), 9);
        due("the other's stays", x.ofPerson(1, 2), 7);
        due("the last", x.wall(1, 1), 7);
    }

    private static void wallBeside() {
        StepBack x = lineOf("m2;p53;u47");
        for (int v : beside(9)) {
            due("v " + v, x.wall(0, v), OUTSIDE);
            due("room stays", x.ofPerson(0, 2), 3);
        }
        for (int p : beside(1)) {
            due("person " + p, x.wall(p, 5), UNKNOWN);
            due("ahead of v", x.wall(p, 10), UNKNOWN);
        }
    }

    private static void hurryAndWallOfOneWhoIsDown() {
        StepBack x = lineOf(STILL);
        x.go();
        due("hurry", x.hurry(0, 7), 0);
        due("wall", x.wall(0, 6), 0);
        due("haste", x.ofPerson(0, 1), 7);
        due("room", x.ofPerson(0, 2), 6);
        due("is not there", x.ofPerson(0, 5), 0);
    }

    private static void leaseBy0And9() {
        StepBack x = lineOf("m2;p53;u47");
        due("becomes 0", x.lease(0), 2);
        due("ground", x.many(1), 0);
        due("may", x.ofPerson(0, 4), 3);
        due("becomes 9", x.lease(9), 0);
        due("ground", x.many(1), 9);
        due("becomes what it is", x.lease(9), 9);
    }

    private static void leaseBeside() {
        StepBack x = lineOf("m2;p53;u47");
        for (int v : beside(9)) {
            due("v " + v, x.lease(v), OUTSIDE);
            due("ground stays", x.many(1), 2);
        }
    }

    private static void leaseWithoutALine() {
        StepBack x = new StepBack();
        for (int v = 0; v <= 9; v++) {
            due("v " + v, x.lease(v), STATE);
            due("ground stays", x.many(1), 0);
        }
        for (int v : beside(9)) {
            due("outside ahead of state", x.lease(v), OUTSIDE);
        }
        due("a text that is none", take(x, BYTES, "m5;p00"), -106);
        due("no line yet", x.lease(3), STATE);
    }

    public static void main(String[] args) {
        newObjectHasNoLine();
        newObjectSheetsHaveNothing();
        textEndsTooSoon();
        textEndsTooSoonOnALongerSheet();
        firstFaultIsTheFirstWrongCode();
        everyCodeAtEveryPlace();
        codesAreCutByTheirSheetAlone();
        seventhPersonIsAFault();
        twoToSixPeople();
        noCellsAtAll();
        digitsOf0And9();
        besideTheDigits();
        lettersOfTheKinds();
        textTakenMakesAllAnew();
        textTakenForgetsWhatEachOwedToEach();
        fewerPeopleThanBefore();
        textWithAFirstFaultChangesNothing();
        textIsTakenAndItsSheetStays();
        lineOfNoSheet();
        lineOfNoLane();
        lineOfAnotherLane();
        lineOfNothingIsNoCast();
        lineOfALengthBelow0();
        lineOfCellsThatAreNotThere();
        lineWhoseSumWouldWrap();
        faultOfTheMachineAheadOfTheText();
        faultOfLineChangesNothing();
        wouldOfEachKind();
        mayNoMoreThanRoomAndGround();
        ofPersonWhats();
        ofPersonOfNobody();
        ofPersonWhetherThere();
        ofPersonStepsOwedToAll();
        hurryBy0And9();
        hurryBeside();
        wallBy0And9();
        wallBeside();
        hurryAndWallOfOneWhoIsDown();
        leaseBy0And9();
        leaseBeside();
        leaseWithoutALine();
        end();
    }
}
