/** Promise 14: the counts of a rider. */
final class CountsTest {
    private static final Due DUE = new Due("CountsTest");

    public static void main(String[] args) {
        withoutReports();
        aRiderAlone();
        theLastFenceCounts();
        seenInManyWays();
        lastReportsCount();
        fencesCount();
        kindsAreSeen();
        reportsAreOfTheirRider();
        timeOverAndUnder();
        holdsAreTakenOff();
        wrongOnes();
        DUE.finish();
    }

    private static void withoutReports() {
        ThreeDays x = new ThreeDays();
        x.rider(0);
        x.fence(500);
        x.fence(500);
        long[] want = {0, 0, 0, 0, 0, 0, 0, 0, 0, 0, 0, 2, 0, 0, 120, -1000000, -1000000, -1};
        for (int what = 0; what < want.length; what++) {
            DUE.due("14: count(0, " + what + ")", x.count(0, what), want[what]);
        }
    }

    private static void aRiderAlone() {
        ThreeDays x = new ThreeDays();
        x.rider(0);
        DUE.due("14: no start", x.count(0, 15), -1000000);
        x.rider(0);
        DUE.due("14: no finish of one who came behind", x.count(1, 16), -1000000);
        DUE.due("14: no time of one who came behind", x.count(1, 17), -1);
    }

    private static void theLastFenceCounts() {
        ThreeDays x = new ThreeDays();
        x.rider(0);
        for (int n = 0; n < 30; n++) {
            x.fence(1);
        }
        for (int kind = 3; kind <= 6; kind++) {
            x.report(0, kind, 29, 0, 0);
            x.report(0, kind, 0, 0, 0);
        }
        DUE.due("14: refusals at fences 29 and 0", x.count(0, 2), 2);
        DUE.due("14: falls at fences 29 and 0", x.count(0, 3), 2);
        DUE.due("14: missed at fences 29 and 0", x.count(0, 4), 2);
        DUE.due("14: unseen but for fences 29 and 0", x.count(0, 11), 28);
    }

    private static void seenInManyWays() {
        for (int ways = 1; ways < 16; ways++) {
            ThreeDays x = new ThreeDays();
            x.rider(0);
            x.fence(1);
            for (int kind = 3; kind <= 6; kind++) {
                if ((ways >> kind - 3 & 1) == 1) {
                    x.report(0, kind, 0, 0, 0);
                }
            }
            DUE.due("14: seen in ways " + ways, x.count(0, 11), 0);
        }
    }

    private static void lastReportsCount() {
        ThreeDays x = new ThreeDays();
        x.rider(0);
        x.report(0, 0, 0, 5, 0);
        x.report(0, 0, 0, 10000, 0);
        x.report(0, 9, 0, 9999, 0);
        x.report(0, 9, 0, 3, 0);
        x.report(0, 1, 0, 100, 0);
        x.report(0, 1, 0, 90, 0);
        x.report(0, 2, 0, 300, 0);
        x.report(0, 2, 0, 310, 0);
        DUE.due("14: marks", x.count(0, 0), 10000);
        DUE.due("14: ring", x.count(0, 1), 3);
        DUE.due("14: start", x.count(0, 15), 90);
        DUE.due("14: finish", x.count(0, 16), 310);
        DUE.due("14: time", x.count(0, 17), 220);
        x.strike(8);
        x.strike(6);
        DUE.due("14: start with the last struck", x.count(0, 15), 100);
        DUE.due("14: finish with the last struck", x.count(0, 16), 300);
        x.strike(7);
        DUE.due("14: no finish", x.count(0, 16), -1000000);
        DUE.due("14: no time", x.count(0, 17), -1);
        DUE.due("14: still a start", x.count(0, 15), 100);
    }

    private static void fencesCount() {
        ThreeDays x = new ThreeDays();
        x.rider(0);
        for (int n = 0; n < 6; n++) {
            x.fence(1);
        }
        for (int fence = 0; fence < 5; fence++) {
            for (int n = 0; n < fence; n++) {
                x.report(0, 3, fence, 0, 0);
            }
        }
        DUE.due("14: refusals", x.count(0, 2), 10);
        DUE.due("14: first", x.count(0, 5), 4);
        DUE.due("14: second", x.count(0, 6), 3);
        DUE.due("14: third", x.count(0, 7), 2);
        DUE.due("14: unseen", x.count(0, 11), 2);
        x.report(0, 4, 0, 0, 0);
        x.report(0, 4, 0, 0, 0);
        x.report(0, 5, 5, 0, 0);
        x.report(0, 5, 4, 0, 0);
        x.report(0, 5, 4, 0, 0);
        DUE.due("14: falls", x.count(0, 3), 2);
        DUE.due("14: missed", x.count(0, 4), 3);
        DUE.due("14: none unseen", x.count(0, 11), 0);
        x.fence(1);
        DUE.due("14: a fence more is unseen", x.count(0, 11), 1);
        x.out(4, 0);
        x.report(0, 1, 0, 5, 0);
        DUE.due("14: refusals without fence 4", x.count(0, 2), 6);
        DUE.due("14: third without fence 4", x.count(0, 7), 1);
        DUE.due("14: missed without fence 4", x.count(0, 4), 1);
    }

    private static void kindsAreSeen() {
        for (int kind = 0; kind <= 11; kind++) {
            ThreeDays x = new ThreeDays();
            x.rider(0);
            x.fence(1);
            int act = x.report(0, kind, 0, 1, 2);
            DUE.due("14: unseen behind kind " + kind, x.count(0, 11), kind >= 3 && kind <= 6 ? 0 : 1);
            DUE.due("14: knocks behind kind " + kind, x.count(0, 8), kind == 8 ? 1 : 0);
            DUE.due("14: looks behind kind " + kind, x.count(0, 9), kind == 10 ? 1 : 0);
            DUE.due("14: retired behind kind " + kind, x.count(0, 10), kind == 11 ? 1 : 0);
            DUE.due("14: refusals behind kind " + kind, x.count(0, 2), kind == 3 ? 1 : 0);
            DUE.due("14: falls behind kind " + kind, x.count(0, 3), kind == 4 ? 1 : 0);
            DUE.due("14: missed behind kind " + kind, x.count(0, 4), kind == 5 ? 1 : 0);
            DUE.due("14: marks behind kind " + kind, x.count(0, 0), kind == 0 ? 1 : 0);
            DUE.due("14: ring behind kind " + kind, x.count(0, 1), kind == 9 ? 1 : 0);
            x.report(0, kind, 0, 1, 2);
            DUE.due("14: twice kind " + kind, x.count(0, 8) + x.count(0, 9) + x.count(0, 10), kind == 8 || kind >= 10 ? 2 : 0);
            x.strike(act);
            x.strike(act + 1);
            DUE.due("14: struck again, unseen", x.count(0, 11), 1);
            DUE.due("14: struck again, marks", x.count(0, 0), 0);
        }
    }

    private static void reportsAreOfTheirRider() {
        ThreeDays x = new ThreeDays();
        for (int n = 0; n < 24; n++) {
            x.rider(-1);
        }
        x.fence(1);
        for (int n = 0; n < 24; n++) {
            x.report(n, 0, 0, 100 + n, 0);
            x.report(n, 6, 0, 0, 0);
            x.report(23 - n, 9, 0, n, 0);
        }
        for (int n = 0; n < 24; n++) {
            DUE.due("14: marks of " + n, x.count(n, 0), 100 + n);
            DUE.due("14: ring of " + n, x.count(n, 1), 23 - n);
            DUE.due("14: unseen of " + n, x.count(n, 11), 0);
        }
        for (int n = 0; n < 24; n++) {
            x.report(n, 8, 0, 0, 0);
            DUE.due("14: a knock of " + n + " comes when all was told", x.count(n, 8), 1);
        }
        x.strike(2);
        DUE.due("14: unseen of 0", x.count(0, 11), 1);
        DUE.due("14: unseen of 1", x.count(1, 11), 0);
    }

    private static void timeOverAndUnder() {
        ThreeDays x = new ThreeDays();
        x.rider(0);
        x.course(1000, 500);
        x.report(0, 1, 0, 1000, 0);
        DUE.due("14: without a finish not over", x.count(0, 12), 0);
        DUE.due("14: without a finish not under", x.count(0, 13), 0);
        int[][] rows = {{1120, 120, 0, 0}, {1121, 121, 1, 0}, {1119, 119, 0, 1}, {1000, 0, 0, 120}, {0, 0, 0, 120},
            {86399, 85399, 85279, 0}};
        for (int[] row : rows) {
            x.report(0, 2, 0, row[0], 0);
            DUE.due("14: time to " + row[0], x.count(0, 17), row[1]);
            DUE.due("14: over at " + row[0], x.count(0, 12), row[2]);
            DUE.due("14: under at " + row[0], x.count(0, 13), row[3]);
        }
        x.strike(1);
        DUE.due("14: without a start no time", x.count(0, 17), -1);
        DUE.due("14: without a start not over", x.count(0, 12), 0);
        DUE.due("14: without a start not under", x.count(0, 13), 0);
    }

    private static void holdsAreTakenOff() {
        ThreeDays x = new ThreeDays();
        x.rider(0);
        x.fence(1);
        x.fence(1);
        x.report(0, 7, 0, 10, 20);
        x.report(0, 1, 0, 1000, 0);
        x.report(0, 2, 0, 1100, 0);
        DUE.due("14: a hold", x.count(0, 17), 90);
        x.report(0, 7, 1, 500, 540);
        x.report(0, 7, 1, 500, 540);
        DUE.due("14: all holds", x.count(0, 17), 10);
        x.report(0, 7, 1, 7, 7);
        DUE.due("14: a hold of nothing", x.count(0, 17), 10);
        x.report(0, 7, 1, 0, 86399);
        DUE.due("14: 0 at least", x.count(0, 17), 0);
        x.strike(7);
        x.strike(1);
        DUE.due("14: holds struck", x.count(0, 17), 20);
        for (int n = 0; n < 380; n++) {
            x.report(0, 7, 0, 0, 86399);
        }
        DUE.due("14: very many holds", x.count(0, 17), 0);
    }

    private static void wrongOnes() {
        ThreeDays x = new ThreeDays();
        x.rider(0);
        int[] numbers = {-1, 1, 24, Integer.MAX_VALUE, Integer.MIN_VALUE};
        for (int rider : numbers) {
            DUE.due("14: rider " + rider, x.count(rider, 0), -2000000);
            DUE.due("14: rider " + rider, x.count(rider, 15), -2000000);
        }
        int[] whats = {-1, 18, 39, 100, Integer.MAX_VALUE, Integer.MIN_VALUE};
        for (int what : whats) {
            DUE.due("14: what " + what, x.count(0, what), -2000000);
        }
    }
}
