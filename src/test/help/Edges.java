/** What the edge tests share: what is due, how a line and a sheet are told, all that an object shows. */
class Edges {
    static final int UNKNOWN = -1, OUTSIDE = -2, STATE = -3, FULL = -4, NONE = -9;
    static final int NULL = -11, CAST = -12, INDEX = -13, SIZE = -14;
    static final long LOST = Long.MIN_VALUE;
    static final int LOW = Integer.MIN_VALUE, HIGH = Integer.MAX_VALUE;
    static final int BYTES = 0, SHORTS = 1, INTS = 2;

    /** Their MAYs are 5, 8, 3, 2, 2. */
    static final String FIVE = "m2;p53;u47;l91;p80;u20";
    static final String SIX = "m9;p99;u00;l09;p90;u55;l12";
    static final String STILL = "m0;p00;p00;p00";

    /** Numbers that no digit, place, lane or person has: just beside 0 .. most, and far off. */
    static int[] beside(int most) {
        return new int[] {-1, most + 1, LOW, HIGH};
    }

    private static int asked = 0;
    private static int wrong = 0;

    static void due(String call, long got, long want) {
        asked++;
        if (got != want) {
            wrong++;
            System.out.println(place() + ": " + call + " answered " + got + ", due is " + want);
        }
    }

    static void dueSame(String call, String got, String want) {
        asked++;
        if (!got.equals(want)) {
            wrong++;
            System.out.println(place() + ": " + call + " left" + System.lineSeparator() + got
                + "due is" + System.lineSeparator() + want);
        }
    }

    /** The test that asked: what main called. */
    private static String place() {
        String called = "";
        for (StackTraceElement e : new Throwable().getStackTrace()) {
            if (e.getMethodName().equals("main")) {
                return called;
            }
            called = e.getClassName() + "." + e.getMethodName() + " line " + e.getLineNumber();
        }
        return called;
    }

    static void end() {
        System.out.println(asked + " answers, " + wrong + " not as due");
        if (wrong != 0) {
            System.exit(1);
        }
    }

    /** A sheet gets a row of these cells. */
    static void fill(StepBack x, int sheet, int lane, int... cells) {
        x.sheet(sheet, lane, cells.length);
        for (int i = 0; i < cells.length; i++) {
            x.put(sheet, i, cells[i]);
        }
    }

    static int[] codes(String text) {
        int[] codes = new int[text.length()];
        for (int i = 0; i < codes.length; i++) {
            codes[i] = text.charAt(i);
        }
        return codes;
    }

    /** A text on sheet 0, taken whole. */
    static int take(StepBack x, int lane, String text) {
        fill(x, 0, lane, codes(text));
        return x.line(0, lane, 0, text.length());
    }

    static StepBack lineOf(String text) {
        StepBack x = new StepBack();
        due("line of " + text, take(x, BYTES, text), (text.length() - 2) / 4);
        return x;
    }

    /** The lift takes these two alone: all others have no haste, these have so much, and room for it. */
    static int goOf(StepBack x, int p, int mayP, int other, int mayOther) {
        x.morning();
        for (int k = 0; k < x.many(0); k++) {
            x.hurry(k, k == p ? mayP : k == other ? mayOther : 0);
            x.wall(k, 9);
        }
        return x.go();
    }

    /** People who have gone, owe, were read; sheets of each lane, and one that has nothing. */
    static StepBack rich() {
        StepBack x = lineOf(FIVE);
        x.go();
        x.go();
        x.morning();
        x.go();
        x.reading(0, 4, 1);
        x.reading(3, 2, 0);
        x.tell(2);
        fill(x, 1, SHORTS, 7, -8, 9);
        fill(x, 2, INTS, HIGH, LOW, 1, 0);
        return x;
    }

    /** All that an object shows but fault(), in some 250 calls. */
    static String shown(StepBack x) {
        StringBuilder s = new StringBuilder("trace ").append(x.trace()).append(", many");
        for (int what = 0; what <= 4; what++) {
            s.append(' ').append(x.many(what));
        }
        s.append(System.lineSeparator());
        for (int p = 0; p < x.many(0); p++) {
            s.append("person ").append(p).append(':');
            for (int what = 0; what <= 7; what++) {
                s.append(' ').append(x.ofPerson(p, what));
            }
            s.append(", owes");
            for (int other = 0; other < x.many(0); other++) {
                s.append(' ').append(x.owes(p, other));
            }
            s.append(", read ").append(x.hastes(p)).append(' ').append(x.rooms(p)).append(' ').append(x.kinds(p));
            s.append(System.lineSeparator());
        }
        for (int k = 0; k < 4; k++) {
            s.append("sheet ").append(k).append(':').append(cellsOf(x, k)).append(System.lineSeparator());
        }
        return s.toString();
    }

    private static String cellsOf(StepBack x, int k) {
        for (int lane = BYTES; lane <= INTS; lane++) {
            x.cell(k, 0, lane);
            if (x.fault() == 1) {
                return " nothing";
            }
            if (x.fault() != 2) {
                return " lane " + lane + ":" + cellsOf(x, k, lane);
            }
        }
        return " of no lane";
    }

    private static String cellsOf(StepBack x, int k, int lane) {
        StringBuilder s = new StringBuilder();
        for (int i = 0; i <= 60; i++) {
            long cell = x.cell(k, i, lane);
            if (cell == LOST) {
                return s.toString();
            }
            s.append(' ').append(cell);
        }
        return s.append(" and more").toString();
    }
}
