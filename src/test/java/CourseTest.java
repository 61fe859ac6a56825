/** Promises 5 to 8: fences, course, clocks, and fences taken out. */
final class CourseTest {
    private static final Due DUE = new Due("CourseTest");

    public static void main(String[] args) {
        fencesAreCounted();
        fenceRefuses();
        optimumIsNotBelow();
        courseRefuses();
        clockRefuses();
        clocksArePutRight();
        outRefuses();
        fenceCountsByStart();
        outHangsOnTheStartAsKnown();
        DUE.finish();
    }

    private static void fencesAreCounted() {
        ThreeDays x = new ThreeDays();
        for (int n = 1; n <= 30; n++) {
            DUE.due("5: fence " + n, x.fence(n == 1 ? 0 : 2000), n);
        }
        DUE.due("5: a 31st", x.fence(1), -1);
        DUE.due("24: thirty", x.all(1), 30);
        DUE.due("6: the longest course, the slowest", x.course(2000, 100), 60 * 600);
        DUE.due("24: the same", x.all(3), 60 * 600);
    }

    private static void fenceRefuses() {
        ThreeDays x = new ThreeDays();
        int[] wrong = {-1, 2001, Integer.MAX_VALUE, Integer.MIN_VALUE};
        for (int metres : wrong) {
            DUE.due("5: fence(" + metres + ")", x.fence(metres), -1);
        }
        DUE.due("24: none", x.all(1), 0);
        DUE.due("24: no metres", x.all(3), 0);
    }

    private static void optimumIsNotBelow() {
        ThreeDays x = new ThreeDays();
        DUE.due("24: nothing to ride", x.all(3), 0);
        x.fence(1);
        DUE.due("5: speed is 500 at first, end 0", x.all(3), 1);
        x.fence(499);
        DUE.due("5: 500 metres", x.all(3), 60);
        x.fence(1);
        DUE.due("5: 501 metres", x.all(3), 61);
        DUE.due("6: end metres come to it", x.course(499, 500), 120);
        DUE.due("6: 1000 at 700", x.course(499, 700), 86);
        DUE.due("6: 1000 at 100", x.course(499, 100), 600);
        DUE.due("6: 501 at 100", x.course(0, 100), 301);
        DUE.due("6: a little above 19", new ThreeDays().course(32, 101), 20);
        DUE.due("6: a little below 20", new ThreeDays().course(670, 201 * 3 - 1), 67);
        x.rider(-1);
        DUE.due("14: as a count", x.count(0, 14), 301);
        x.fence(2000);
        DUE.due("14: a fence more", x.count(0, 14), 1501);
        x.out(0, 0);
        DUE.due("14: metres stay", x.count(0, 14), 1501);
        x.course(0, 200);
        DUE.due("14: another speed", x.count(0, 14), 751);
        x.course(999, 200);
        DUE.due("14: another end", x.count(0, 14), 1050);
    }

    private static void courseRefuses() {
        ThreeDays x = new ThreeDays();
        DUE.due("6: 1000 at 250", x.course(1000, 250), 240);
        int[][] wrong = {{-1, 500}, {2001, 500}, {5, 99}, {5, 701}, {5, 0}, {5, -500},
            {Integer.MIN_VALUE, 500}, {Integer.MAX_VALUE, 500}, {5, Integer.MIN_VALUE}, {5, Integer.MAX_VALUE}};
        for (int[] pair : wrong) {
            DUE.due("6: course(" + pair[0] + ", " + pair[1] + ")", x.course(pair[0], pair[1]), -1);
            DUE.due("6: it did nothing", x.all(3), 240);
        }
        DUE.due("6: the least of both", x.course(0, 100), 0);
        DUE.due("6: the most of both", x.course(2000, 700), 172);
    }

    private static void clockRefuses() {
        ThreeDays x = new ThreeDays();
        DUE.due("7: start", x.clock(0, 600), true);
        DUE.due("7: finish", x.clock(1, -600), true);
        DUE.due("7: no fence 0", x.clock(2, 0), false);
        x.fence(5);
        DUE.due("7: fence 0", x.clock(2, 0), true);
        DUE.due("7: no fence 1", x.clock(3, 0), false);
        int[][] wrong = {{-1, 0}, {0, 601}, {0, -601}, {1, Integer.MAX_VALUE}, {1, Integer.MIN_VALUE},
            {Integer.MAX_VALUE, 0}, {Integer.MIN_VALUE, 0}, {2, 601}, {32, 0}, {31, 0}};
        for (int[] pair : wrong) {
            DUE.due("7: clock(" + pair[0] + ", " + pair[1] + ")", x.clock(pair[0], pair[1]), false);
        }
        x.rider(-1);
        x.report(0, 1, 0, 1000, 0);
        x.report(0, 2, 0, 1000, 0);
        DUE.due("7: the refused ones did nothing (start)", x.count(0, 15), 400);
        DUE.due("7: the refused ones did nothing (finish)", x.count(0, 16), 1600);
        for (int n = 0; n < 29; n++) {
            x.fence(1);
        }
        DUE.due("7: fence 29", x.clock(31, 1), true);
        DUE.due("7: no fence 30", x.clock(32, 1), false);
    }

    private static void clocksArePutRight() {
        ThreeDays x = new ThreeDays();
        x.rider(-1);
        x.fence(100);
        x.report(0, 1, 0, 500, 0);
        x.report(0, 2, 0, 800, 0);
        DUE.due("7: ahead 0 at first", x.count(0, 17), 300);
        x.clock(0, 10);
        DUE.due("7: a start clock ahead: the start was earlier", x.count(0, 15), 490);
        DUE.due("7: the time is longer", x.count(0, 17), 310);
        x.clock(1, 30);
        DUE.due("7: a finish clock ahead", x.count(0, 16), 770);
        DUE.due("7: the time is shorter", x.count(0, 17), 280);
        x.report(0, 7, 0, 600, 650);
        DUE.due("7: a hold", x.count(0, 17), 230);
        x.clock(2, 600);
        DUE.due("7: one clock tells both ends of a hold", x.count(0, 17), 230);
        x.clock(0, 600);
        DUE.due("7: a start below 0", x.count(0, 15), -100);
        x.clock(0, 0);
        DUE.due("7: put back", x.count(0, 15), 500);
    }

    private static void outRefuses() {
        ThreeDays x = new ThreeDays();
        DUE.due("8: no fence", x.out(0, 5), false);
        x.fence(1);
        DUE.due("8: fence 0 from 0 on", x.out(0, 0), true);
        DUE.due("8: from 86399 on", x.out(0, 86399), true);
        DUE.due("8: not taken out", x.out(0, -1), true);
        int[][] wrong = {{0, -2}, {0, 86400}, {-1, 5}, {1, 5}, {30, 5}, {0, Integer.MAX_VALUE},
            {0, Integer.MIN_VALUE}, {Integer.MAX_VALUE, 5}, {Integer.MIN_VALUE, 5}, {-1, -1}, {1, -1}};
        for (int[] pair : wrong) {
            DUE.due("8: out(" + pair[0] + ", " + pair[1] + ")", x.out(pair[0], pair[1]), false);
        }
        x.rider(-1);
        x.report(0, 1, 0, 86399, 0);
        DUE.due("8: the refused ones did nothing", x.count(0, 11), 1);
    }

    private static void fenceCountsByStart() {
        ThreeDays x = new ThreeDays();
        x.rider(-1);
        x.fence(10);
        x.fence(10);
        for (int kind = 3; kind <= 5; kind++) {
            x.report(0, kind, 1, 0, 0);
        }
        x.out(1, 1000);
        x.out(0, 1000);
        DUE.due("8: without a start it counts (refusals)", x.count(0, 2), 1);
        DUE.due("8: without a start it counts (unseen)", x.count(0, 11), 1);
        x.report(0, 1, 0, 999, 0);
        DUE.due("8: a start before counts", x.count(0, 2), 1);
        x.report(0, 1, 0, 1000, 0);
        int[] gone = {2, 3, 4, 5, 11};
        for (int what : gone) {
            DUE.due("8: a start at that second does not, count " + what, x.count(0, what), 0);
        }
        x.clock(0, 1);
        DUE.due("8: the start put right is before", x.count(0, 2), 1);
        x.clock(0, -1);
        DUE.due("8: the start put right is behind", x.count(0, 2), 0);
        x.out(1, 1002);
        DUE.due("8: out from later on", x.count(0, 2), 1);
        x.out(1, 0);
        DUE.due("8: out from 0 on", x.count(0, 2), 0);
        x.out(1, -1);
        DUE.due("8: not taken out any more", x.count(0, 2), 1);
        DUE.due("8: each fence by itself", x.count(0, 11), 0);
        x.out(1, 0);
        x.report(0, 2, 0, 2001, 0);
        DUE.due("8: time without a hold", x.count(0, 17), 1000);
        x.report(0, 7, 1, 1500, 1600);
        DUE.due("8: holds at fences that do not count are taken off", x.count(0, 17), 900);
        x.clock(0, 600);
        x.out(1, 401);
        DUE.due("8: start at 400", x.count(0, 2), 1);
        x.report(0, 1, 0, 0, 0);
        x.out(1, 0);
        DUE.due("8: a start below 0 is before second 0", x.count(0, 2), 1);
    }

    private static void outHangsOnTheStartAsKnown() {
        ThreeDays x = new ThreeDays();
        x.rider(-1);
        x.fence(10);
        x.report(0, 4, 0, 0, 0);
        x.report(0, 1, 0, 2000, 0);
        x.out(0, 1000);
        DUE.due("8: does not count", x.count(0, 3), 0);
        x.as(1);
        DUE.due("8: at act 1 there was no start", x.count(0, 3), 1);
        x.as(-1);
        x.strike(2);
        DUE.due("8: the start is struck", x.count(0, 3), 1);
    }
}
