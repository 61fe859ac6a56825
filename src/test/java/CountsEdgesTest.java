/** Terms II (counts, time) and promise 14 at their edges. */
final class CountsEdgesTest {
    private static final Edges EDGES = new Edges("CountsEdgesTest");
    private static final int OVER = 12;
    private static final int UNDER = 13;
    private static final int START = 15;
    private static final int FINISH = 16;
    private static final int TIME = 17;
    private static final int NO_SECOND = -1000000;
    private static final int NO_COUNT = -2000000;

    public static void main(String[] args) {
        noughtWithout();
        eachKindAlone();
        lastSuchReport();
        howManyAtFences();
        firstSecondThird();
        howManyReports();
        unseenKinds();
        onlyFencesThatCount();
        startAndFinish();
        timeIsNoughtAtLeast();
        overAndUnder();
        noughtWithoutStartOrFinish();
        holdsAreTakenOff();
        holdsAtFencesThatDoNotCount();
        whatsThatAre();
        ridersThatAre();
        EDGES.finish();
    }

    private static ThreeDays rider(int fences) {
        ThreeDays x = new ThreeDays();
        x.rider(-1);
        Edges.fences(x, fences);
        return x;
    }

    private static void noughtWithout() {
        EDGES.sentence("II: marks, ring .. (0 without); how many such REPORTS");
        ThreeDays x = rider(0);
        for (int what = 0; what <= 14; what++) {
            EDGES.due("count(0, " + what + ") of nothing", x.count(0, what), 0);
        }
        for (int kind = 0; kind <= 11; kind++) {
            ThreeDays y = rider(1);
            y.report(0, kind, 0, 1, 2);
            EDGES.due("marks behind kind " + kind, y.count(0, 0), kind == 0 ? 1 : 0);
            EDGES.due("ring behind kind " + kind, y.count(0, 1), kind == 9 ? 1 : 0);
            y.strike(1);
            EDGES.due("marks, struck", y.count(0, 0), 0);
            EDGES.due("ring, struck", y.count(0, 1), 0);
        }
    }

    /** Of every kind every count: one report touches its own and no other. */
    private static void eachKindAlone() {
        EDGES.sentence("II: COUNTS of a RIDER: those of such a REPORT, and of no other");
        int[][] changed = {{0, 1}, {START, 1}, {FINISH, 1}, {2, 1, 5, 1, 11, 0}, {3, 1, 11, 0}, {4, 1, 11, 0}, {11, 0}, {},
            {8, 1}, {1, 1}, {9, 1}, {10, 1}};
        for (int kind = 0; kind <= 11; kind++) {
            int[] want = {0, 0, 0, 0, 0, 0, 0, 0, 0, 0, 0, 1, 0, 0, 2, NO_SECOND, NO_SECOND, -1};
            for (int i = 0; i < changed[kind].length; i += 2) {
                want[changed[kind][i]] = changed[kind][i + 1];
            }
            ThreeDays x = rider(1);
            x.report(0, kind, 0, 1, 2);
            for (int what = 0; what < want.length; what++) {
                EDGES.due("count(0, " + what + ") behind kind " + kind, x.count(0, what), want[what]);
            }
        }
    }

    private static void lastSuchReport() {
        EDGES.sentence("II: marks, ring: those of the last such REPORT; START, FINISH: those of the last such REPORT");
        int[] kinds = {0, 9, 1, 2};
        int[] whats = {0, 1, START, FINISH};
        for (int i = 0; i < kinds.length; i++) {
            ThreeDays x = rider(1);
            x.rider(-1);
            x.report(0, kinds[i], 0, 7, 0);
            x.report(0, kinds[i], 0, 9000, 0);
            x.report(0, kinds[i], 0, 0, 0);
            x.report(1, kinds[i], 0, 55, 0);
            x.report(0, 3, 0, 66, 0);
            int without = i < 2 ? 0 : NO_SECOND;
            EDGES.due("kind " + kinds[i] + ": the last, 0", x.count(0, whats[i]), 0);
            x.strike(3);
            EDGES.due("the last that stands", x.count(0, whats[i]), 9000);
            x.strike(1);
            EDGES.due("an earlier one struck", x.count(0, whats[i]), 9000);
            x.strike(2);
            EDGES.due("none stands", x.count(0, whats[i]), without);
            EDGES.due("the other's stands", x.count(1, whats[i]), 55);
            x.report(0, kinds[i], 0, 1, 0);
            EDGES.due("a new one", x.count(0, whats[i]), 1);
        }
    }

    private static void howManyAtFences() {
        EDGES.sentence("II: refusals, falls, missed: how many such REPORTS at FENCES that COUNT");
        for (int kind = 3; kind <= 5; kind++) {
            ThreeDays x = rider(30);
            int act = 0;
            for (int fence = 0; fence < 30; fence++) {
                x.report(0, kind, fence, 0, 0);
                act = x.report(0, kind, fence, 0, 0);
                EDGES.due("kind " + kind + " at fence " + fence, x.count(0, kind - 1), 2 * (fence + 1));
            }
            x.strike(act);
            EDGES.due("one struck", x.count(0, kind - 1), 59);
            for (int what = 2; what <= 4; what++) {
                EDGES.due("count(0, " + what + ") of kind " + kind + " alone", x.count(0, what), what == kind - 1 ? 59 : 0);
            }
        }
        ThreeDays x = rider(1);
        for (int n = 0; n < 400; n++) {
            x.report(0, 3, 0, 0, 0);
        }
        EDGES.due("400 at one fence", x.count(0, 2), 400);
        EDGES.due("first", x.count(0, 5), 1);
        EDGES.due("third", x.count(0, 7), 1);
    }

    private static void firstSecondThird() {
        EDGES.sentence("II: first, second, third: FENCES that COUNT with 1, 2, 3 REFUSALS or more");
        for (int refusals = 0; refusals <= 5; refusals++) {
            ThreeDays x = rider(2);
            for (int n = 0; n < refusals; n++) {
                x.report(0, 3, 1, 0, 0);
            }
            for (int step = 1; step <= 3; step++) {
                EDGES.due(refusals + " refusals, count " + (4 + step), x.count(0, 4 + step), refusals >= step ? 1 : 0);
            }
            x.report(0, 4, 1, 0, 0);
            x.report(0, 5, 1, 0, 0);
            x.report(0, 6, 1, 0, 0);
            for (int step = 1; step <= 3; step++) {
                EDGES.due("no other kind, count " + (4 + step), x.count(0, 4 + step), refusals >= step ? 1 : 0);
            }
            if (refusals > 0) {
                x.strike(1);
                EDGES.due("one struck of " + refusals + ", third", x.count(0, 7), refusals >= 4 ? 1 : 0);
            }
        }
        ThreeDays apart = rider(3);
        for (int fence = 0; fence < 3; fence++) {
            apart.report(0, 3, fence, 0, 0);
        }
        EDGES.due("one at each of three: first", apart.count(0, 5), 3);
        EDGES.due("one at each of three: second", apart.count(0, 6), 0);
        EDGES.due("one at each of three: third", apart.count(0, 7), 0);
    }

    private static void howManyReports() {
        EDGES.sentence("II: knocks, looks, retired: how many such REPORTS");
        int[] kinds = {8, 10, 11};
        for (int i = 0; i < kinds.length; i++) {
            ThreeDays x = rider(0);
            for (int n = 1; n <= 400; n++) {
                x.report(0, kinds[i], 0, 0, 0);
            }
            for (int other = 0; other < kinds.length; other++) {
                EDGES.due("count of kind " + kinds[other], x.count(0, 8 + other), other == i ? 400 : 0);
            }
            x.as(1);
            EDGES.due("one", x.count(0, 8 + i), 1);
            x.as(0);
            EDGES.due("none", x.count(0, 8 + i), 0);
        }
    }

    private static void unseenKinds() {
        EDGES.sentence("II: unseen: FENCES that COUNT without a REPORT of KIND 3 to 6");
        for (int kind = 0; kind <= 11; kind++) {
            ThreeDays x = rider(2);
            x.report(0, kind, 1, 1, 2);
            boolean isSeen = kind >= 3 && kind <= 6;
            EDGES.due("kind " + kind, x.count(0, 11), isSeen ? 1 : 2);
            x.report(0, kind, 1, 1, 2);
            EDGES.due("kind " + kind + " twice", x.count(0, 11), isSeen ? 1 : 2);
            x.strike(1);
            EDGES.due("kind " + kind + ", one struck", x.count(0, 11), isSeen ? 1 : 2);
            x.strike(2);
            EDGES.due("kind " + kind + ", both struck", x.count(0, 11), 2);
        }
        ThreeDays x = rider(1);
        x.rider(-1);
        x.report(1, 6, 0, 0, 0);
        EDGES.due("seen of another", x.count(0, 11), 1);
        x.report(0, 6, 0, 0, 0);
        EDGES.due("all seen", x.count(0, 11), 0);
    }

    private static void onlyFencesThatCount() {
        EDGES.sentence("II: at FENCES that COUNT");
        ThreeDays x = rider(2);
        for (int kind = 3; kind <= 6; kind++) {
            for (int n = 0; n < 3; n++) {
                x.report(0, kind, 0, 0, 0);
            }
        }
        x.report(0, 1, 0, 1000, 0);
        int[] with = {3, 3, 3, 1, 1, 1};
        for (int second = 999; second <= 1001; second++) {
            x.out(0, second);
            for (int i = 0; i < with.length; i++) {
                EDGES.due("out from " + second + ", count " + (2 + i), x.count(0, 2 + i), second > 1000 ? with[i] : 0);
            }
            EDGES.due("unseen, out from " + second, x.count(0, 11), 1);
        }
        x.out(0, -1);
        x.out(1, 1000);
        EDGES.due("the unseen one does not count", x.count(0, 11), 0);
        EDGES.due("the other does", x.count(0, 2), 3);
    }

    private static void startAndFinish() {
        EDGES.sentence("14: 15 START, 16 FINISH (-1000000 without), 17 TIME (NONE without START, FINISH)");
        int[][] due = {{NO_SECOND, NO_SECOND, -1}, {100, NO_SECOND, -1}, {NO_SECOND, 130, -1}, {100, 130, 30}};
        for (int ways = 0; ways < 4; ways++) {
            ThreeDays x = rider(0);
            if ((ways & 1) != 0) {
                x.report(0, 1, 0, 100, 0);
            }
            if ((ways & 2) != 0) {
                x.report(0, 2, 0, 130, 0);
            }
            for (int i = 0; i < 3; i++) {
                EDGES.due("count(0, " + (START + i) + "), ways " + ways, x.count(0, START + i), due[ways][i]);
            }
            x.clock(0, 600);
            x.clock(1, 600);
            EDGES.due("without is without, whatever the clock", x.count(0, START), (ways & 1) == 0 ? NO_SECOND : -500);
            EDGES.due("likewise the finish", x.count(0, FINISH), (ways & 2) == 0 ? NO_SECOND : -470);
        }
        ThreeDays x = rider(0);
        x.report(0, 1, 0, 0, 0);
        x.report(0, 2, 0, 0, 0);
        EDGES.due("a start at 0 is one", x.count(0, START), 0);
        EDGES.due("a finish at 0 is one", x.count(0, FINISH), 0);
        EDGES.due("a time of 0 is one", x.count(0, TIME), 0);
    }

    /** The finish comes so many seconds behind the start; the course is 1000 at 500, so OPTIMUM is 120. */
    private static ThreeDays ridden(int seconds) {
        ThreeDays x = rider(1);
        x.course(990, 500);
        x.report(0, 1, 0, 5000, 0);
        x.report(0, 2, 0, 5000 + seconds, 0);
        return x;
    }

    private static void timeIsNoughtAtLeast() {
        EDGES.sentence("II: TIME: FINISH less START, less all HOLDS, 0 at least");
        for (int seconds = -2; seconds <= 2; seconds++) {
            EDGES.due("time of " + seconds, ridden(seconds).count(0, TIME), Math.max(0, seconds));
        }
        EDGES.due("far below", ridden(-5000).count(0, TIME), 0);
        for (int held = 98; held <= 102; held++) {
            ThreeDays x = ridden(100);
            x.report(0, 7, 0, 2000, 2000 + held);
            EDGES.due("100 less a hold of " + held, x.count(0, TIME), Math.max(0, 100 - held));
            EDGES.due("under", x.count(0, UNDER), Math.min(120, 20 + held));
        }
        ThreeDays x = ridden(0);
        x.clock(0, 1);
        EDGES.due("put right to 1", x.count(0, TIME), 1);
        x.clock(1, 1);
        EDGES.due("put right to 0", x.count(0, TIME), 0);
        x.clock(1, 2);
        EDGES.due("put right to -1", x.count(0, TIME), 0);
        ThreeDays below = ridden(-50);
        below.clock(0, 60);
        EDGES.due("0 at least only at the end", below.count(0, TIME), 10);
        below.report(0, 7, 0, 0, 9);
        EDGES.due("and holds too", below.count(0, TIME), 1);
    }

    private static void overAndUnder() {
        EDGES.sentence("II: over: TIME less OPTIMUM, under: OPTIMUM less TIME, each 0 at least");
        int[][] rows = {{0, 0, 120}, {1, 0, 119}, {118, 0, 2}, {119, 0, 1}, {120, 0, 0}, {121, 1, 0}, {122, 2, 0},
            {81399, 81279, 0}, {-1, 0, 120}, {-5000, 0, 120}};
        for (int[] row : rows) {
            ThreeDays x = ridden(row[0]);
            EDGES.due("over at " + row[0], x.count(0, OVER), row[1]);
            EDGES.due("under at " + row[0], x.count(0, UNDER), row[2]);
        }
        ThreeDays x = ridden(0);
        x.course(0, 500);
        EDGES.due("an optimum of 2", x.count(0, UNDER), 2);
        ThreeDays none = rider(0);
        none.report(0, 1, 0, 5, 0);
        none.report(0, 2, 0, 5, 0);
        EDGES.due("no optimum, no time: over", none.count(0, OVER), 0);
        EDGES.due("no optimum, no time: under", none.count(0, UNDER), 0);
        none.report(0, 2, 0, 6, 0);
        EDGES.due("no optimum, a time of 1: over", none.count(0, OVER), 1);
        EDGES.due("no optimum, a time of 1: under", none.count(0, UNDER), 0);
    }

    private static void noughtWithoutStartOrFinish() {
        EDGES.sentence("II: and 0 without a START or a FINISH");
        for (int ways = 0; ways < 3; ways++) {
            ThreeDays x = rider(1);
            x.course(990, 500);
            x.report(0, 7, 0, 10, 20);
            if (ways > 0) {
                x.report(0, ways, 0, 5000, 0);
            }
            EDGES.due("over, ways " + ways, x.count(0, OVER), 0);
            EDGES.due("under, ways " + ways, x.count(0, UNDER), 0);
            EDGES.due("optimum stays, ways " + ways, x.count(0, 14), 120);
        }
        ThreeDays x = ridden(500);
        EDGES.due("over with both", x.count(0, OVER), 380);
        x.strike(1);
        EDGES.due("over with the start struck", x.count(0, OVER), 0);
        ThreeDays y = ridden(50);
        EDGES.due("under with both", y.count(0, UNDER), 70);
        y.strike(2);
        EDGES.due("under with the finish struck", y.count(0, UNDER), 0);
        y.as(2);
        EDGES.due("ahead of the strike", y.count(0, UNDER), 70);
        y.as(1);
        EDGES.due("ahead of the finish", y.count(0, UNDER), 0);
    }

    private static void holdsAreTakenOff() {
        EDGES.sentence("II: less all HOLDS (their b less a)");
        ThreeDays x = ridden(1000);
        x.report(0, 7, 0, 0, 0);
        EDGES.due("a hold of 0", x.count(0, TIME), 1000);
        x.report(0, 7, 0, 86399, 86399);
        EDGES.due("a hold of 0 at the day's end", x.count(0, TIME), 1000);
        x.report(0, 7, 0, 7, 8);
        EDGES.due("a hold of 1", x.count(0, TIME), 999);
        x.report(0, 7, 0, 7, 8);
        EDGES.due("the same once more", x.count(0, TIME), 998);
        x.clock(2, 600);
        EDGES.due("whatever its post is ahead", x.count(0, TIME), 998);
        x.report(0, 7, 0, 0, 86399);
        EDGES.due("the longest", x.count(0, TIME), 0);
        EDGES.due("struck", x.strike(7), 8);
        EDGES.due("and back", x.count(0, TIME), 998);
        ThreeDays many = ridden(81399);
        for (int n = 0; n < 398; n++) {
            many.report(0, 7, 0, 0, 86399);
        }
        EDGES.due("398 of the longest", many.count(0, TIME), 0);
        EDGES.due("under", many.count(0, UNDER), 120);
        EDGES.due("over", many.count(0, OVER), 0);
    }

    private static void holdsAtFencesThatDoNotCount() {
        EDGES.sentence("II: also at FENCES that do not COUNT");
        ThreeDays x = ridden(300);
        x.report(0, 7, 0, 100, 140);
        EDGES.due("at one that counts", x.count(0, TIME), 260);
        x.out(0, 5000);
        EDGES.due("at one that does not", x.count(0, TIME), 260);
        EDGES.due("which is none unseen", x.count(0, 11), 0);
        x.report(0, 7, 0, 100, 110);
        EDGES.due("a later one there", x.count(0, TIME), 250);
    }

    private static void whatsThatAre() {
        EDGES.sentence("14: COUNT what, numbered 0 .. 14; 15, 16, 17; -2000000 if there is none such");
        EDGES.range("count, what", Edges::busy, (x, what) -> x.count(0, what), 0, 17, NO_COUNT);
        int[] wrong = {-1, -2, 18, 19, 39, 256, Integer.MIN_VALUE, Integer.MAX_VALUE};
        for (int what : wrong) {
            EDGES.answers("count(0, " + what + ")", x -> x.rider(-1), x -> x.count(0, what), NO_COUNT);
            EDGES.answers("count(5, " + what + ") of nobody", x -> x.rider(-1), x -> x.count(5, what), NO_COUNT);
        }
        ThreeDays x = new ThreeDays();
        x.rider(-1);
        x.fence(40);
        int[][] reports = {{0, 101}, {9, 102}, {3, 0}, {3, 0}, {3, 0}, {4, 0}, {4, 0}, {5, 0}, {8, 0}, {8, 0}, {8, 0},
            {8, 0}, {10, 0}, {10, 0}, {10, 0}, {10, 0}, {10, 0}, {11, 0}, {11, 0}, {11, 0}, {11, 0}, {11, 0}, {11, 0},
            {1, 700}, {2, 712}};
        for (int[] r : reports) {
            x.report(0, r[0], 0, r[1], 0);
        }
        x.fence(10);
        x.fence(0);
        int[] due = {101, 102, 3, 2, 1, 1, 1, 1, 4, 5, 6, 2, 6, 0, 6, 700, 712, 12};
        for (int what = 0; what < due.length; what++) {
            EDGES.due("count(0, " + what + ")", x.count(0, what), due[what]);
        }
    }

    private static void ridersThatAre() {
        EDGES.sentence("14: of a RIDER; -2000000 if there is none such");
        for (int what = 0; what <= 17; what++) {
            int w = what;
            int[] wrong = {-1, 6, 23, 24, Integer.MIN_VALUE, Integer.MAX_VALUE};
            for (int rider : wrong) {
                EDGES.answers("count(" + rider + ", " + w + ")", Edges::busy, x -> x.count(rider, w), NO_COUNT);
            }
            EDGES.due("count(5, " + w + ")", Edges.made(Edges::busy).count(5, w) != NO_COUNT, true);
            EDGES.answers("count(0, " + w + ") of a new one", Edges::empty, x -> x.count(0, w), NO_COUNT);
            EDGES.answers("the 24th", x -> Edges.riders(x, 24), x -> Edges.number(x.count(23, w) != NO_COUNT), 1);
            EDGES.answers("a 25th", x -> Edges.riders(x, 24), x -> x.count(24, w), NO_COUNT);
        }
        EDGES.range("count, rider", Edges::busy, (x, rider) -> x.count(rider, 14), 0, 5, NO_COUNT);
    }
}
