/** Promises 9 to 11: reports, strikes, and as known at which act all is told. */
final class ActsTest {
    private static final Due DUE = new Due("ActsTest");

    public static void main(String[] args) {
        reportsAreNumbered();
        reportLooksAtItsKind();
        reportRefuses();
        fourHundredActs();
        strikes();
        strikeOfTheLastMarks();
        asTells();
        asRefuses();
        asStaysWhileActsCome();
        DUE.finish();
    }

    private static void reportsAreNumbered() {
        ThreeDays x = new ThreeDays();
        x.rider(0);
        x.rider(0);
        x.fence(1);
        for (int kind = 0; kind <= 11; kind++) {
            DUE.due("9: kind " + kind, x.report(kind % 2, kind, 0, 0, 0), kind + 1);
        }
        DUE.due("10: a strike is an act too", x.strike(3), 13);
        DUE.due("9: behind it", x.report(0, 8, 0, 0, 0), 14);
        DUE.due("24: acts", x.all(2), 14);
    }

    private static void reportLooksAtItsKind() {
        ThreeDays x = new ThreeDays();
        x.rider(-1);
        int[] atNoFence = {0, 1, 2, 8, 9, 10, 11};
        int act = 0;
        for (int kind : atNoFence) {
            DUE.due("9: no fence looked at, kind " + kind, x.report(0, kind, -7, 5, -9), ++act);
            DUE.due("9: no fence looked at, kind " + kind, x.report(0, kind, Integer.MAX_VALUE, 0, Integer.MIN_VALUE), ++act);
        }
        for (int kind = 3; kind <= 7; kind++) {
            DUE.due("9: no such fence, kind " + kind, x.report(0, kind, 0, 0, 0), -1);
        }
        x.fence(1);
        for (int kind = 3; kind <= 6; kind++) {
            DUE.due("9: a and b not looked at, kind " + kind, x.report(0, kind, 0, -1, 1000000), ++act);
        }
        int[] without = {8, 10, 11};
        for (int kind : without) {
            DUE.due("9: a not looked at, kind " + kind, x.report(0, kind, 0, -1, 0), ++act);
            DUE.due("9: a not looked at, kind " + kind, x.report(0, kind, 0, 1000000, 0), ++act);
        }
    }

    private static void reportRefuses() {
        ThreeDays x = new ThreeDays();
        x.rider(-1);
        x.fence(1);
        x.fence(1);
        int most = Integer.MAX_VALUE;
        int least = Integer.MIN_VALUE;
        int[][] wrong = {
            {1, 8, 0, 0, 0}, {-1, 8, 0, 0, 0}, {24, 8, 0, 0, 0}, {most, 8, 0, 0, 0}, {least, 8, 0, 0, 0},
            {0, -1, 0, 0, 0}, {0, 12, 0, 0, 0}, {0, 13, 0, 0, 0}, {0, most, 0, 0, 0}, {0, least, 0, 0, 0},
            {0, 0, 0, -1, 0}, {0, 0, 0, 10001, 0}, {0, 1, 0, -1, 0}, {0, 1, 0, 86400, 0},
            {0, 2, 0, -1, 0}, {0, 2, 0, 86400, 0}, {0, 9, 0, -1, 0}, {0, 9, 0, 10000, 0},
            {0, 3, 2, 0, 0}, {0, 4, -1, 0, 0}, {0, 5, 2, 0, 0}, {0, 6, most, 0, 0}, {0, 7, 2, 0, 0}, {0, 7, least, 0, 0},
            {0, 7, 0, 5, 4}, {0, 7, 0, -1, 4}, {0, 7, 0, 4, 86400}, {0, 7, 0, 86400, 86400}, {0, 7, 0, -2, -1},
            {0, 7, 0, least, most}, {0, 0, 0, most, 0}, {0, 1, 0, least, 0}, {0, 2, 0, most, 0}, {0, 9, 0, least, 0}};
        for (int[] r : wrong) {
            String call = "9: report(" + r[0] + ", " + r[1] + ", " + r[2] + ", " + r[3] + ", " + r[4] + ")";
            DUE.due(call, x.report(r[0], r[1], r[2], r[3], r[4]), -1);
        }
        DUE.due("9: nothing was reported", x.all(2), 0);
        int[][] edges = {
            {0, 0, 0, 0, 0}, {0, 0, 0, 10000, 0}, {0, 1, 0, 0, 0}, {0, 1, 0, 86399, 0}, {0, 2, 0, 0, 0},
            {0, 2, 0, 86399, 0}, {0, 9, 0, 0, 0}, {0, 9, 0, 9999, 0}, {0, 3, 1, 0, 0}, {0, 7, 1, 0, 0},
            {0, 7, 1, 86399, 86399}, {0, 7, 0, 0, 86399}};
        for (int i = 0; i < edges.length; i++) {
            int[] r = edges[i];
            String call = "9: report(" + r[0] + ", " + r[1] + ", " + r[2] + ", " + r[3] + ", " + r[4] + ")";
            DUE.due(call, x.report(r[0], r[1], r[2], r[3], r[4]), i + 1);
        }
    }

    private static void fourHundredActs() {
        ThreeDays x = new ThreeDays();
        x.rider(-1);
        for (int act = 1; act <= 399; act++) {
            DUE.due("9: act " + act, x.report(0, 8, 0, 0, 0), act);
        }
        DUE.due("10: act 400 is a strike", x.strike(1), 400);
        DUE.due("9: no act 401", x.report(0, 8, 0, 0, 0), -1);
        DUE.due("10: no act 401", x.strike(2), -1);
        DUE.due("24: acts", x.all(2), 400);
        DUE.due("14: knocks of them", x.count(0, 8), 398);
        ThreeDays y = new ThreeDays();
        y.rider(-1);
        for (int act = 1; act <= 400; act++) {
            DUE.due("9: act " + act + " again", y.report(0, 8, 0, 0, 0), act);
        }
        DUE.due("10: a strike would be the 401st", y.strike(400), -1);
        DUE.due("14: all knocks stand", y.count(0, 8), 400);
    }

    private static void strikes() {
        ThreeDays x = new ThreeDays();
        x.rider(-1);
        x.report(0, 8, 0, 0, 0);
        x.report(0, 8, 0, 0, 0);
        int[] wrong = {0, -1, 3, 400, 401, Integer.MAX_VALUE, Integer.MIN_VALUE};
        for (int act : wrong) {
            DUE.due("10: strike(" + act + ")", x.strike(act), -1);
        }
        DUE.due("10: strike(1)", x.strike(1), 3);
        DUE.due("14: one knock is left", x.count(0, 8), 1);
        DUE.due("10: it is struck", x.strike(1), -1);
        DUE.due("10: a strike is not struck", x.strike(3), -1);
        DUE.due("24: acts", x.all(2), 3);
        DUE.due("10: strike(2)", x.strike(2), 4);
        DUE.due("14: no knock is left", x.count(0, 8), 0);
        x.as(0);
        DUE.due("10: struck, whatever is told", x.strike(2), -1);
        x.report(0, 10, 0, 0, 0);
        DUE.due("10: a report behind the act told can be struck", x.strike(5), 6);
    }

    private static void strikeOfTheLastMarks() {
        ThreeDays x = new ThreeDays();
        x.rider(-1);
        x.report(0, 0, 0, 111, 0);
        x.report(0, 0, 0, 222, 0);
        x.report(0, 0, 0, 333, 0);
        DUE.due("9: the last marks", x.count(0, 0), 333);
        x.strike(3);
        DUE.due("10: the last that stand", x.count(0, 0), 222);
        x.strike(1);
        DUE.due("10: the first ones gone too", x.count(0, 0), 222);
        x.strike(2);
        DUE.due("10: none left", x.count(0, 0), 0);
        x.as(3);
        DUE.due("11: at 3", x.count(0, 0), 333);
        x.as(4);
        DUE.due("11: at 4", x.count(0, 0), 222);
        x.as(6);
        DUE.due("11: at 6", x.count(0, 0), 0);
    }

    private static void asTells() {
        ThreeDays x = new ThreeDays();
        x.rider(-1);
        x.rider(-1);
        Due.rules(x, "total = marks; out if retired > 0;");
        x.report(0, 0, 0, 50, 0);
        x.report(1, 0, 0, 40, 0);
        x.report(1, 11, 0, 0, 0);
        x.strike(3);
        x.strike(1);
        int[] total0 = {0, 50, 50, 50, 50, 0};
        int[] place0 = {1, 2, 2, 1, 2, 1};
        int[] place1 = {1, 1, 1, 0, 1, 2};
        for (int round = 0; round < 2; round++) {
            for (int i = 0; i <= 5; i++) {
                int act = round == 0 ? i : 5 - i;
                DUE.due("11: as(" + act + ")", x.as(act), true);
                DUE.due("24: as known at " + act, x.all(5), act);
                DUE.due("16: total at " + act, x.total(0), total0[act]);
                DUE.due("19: place of 0 at " + act, x.place(0), place0[act]);
                DUE.due("19: place of 1 at " + act, x.place(1), place1[act]);
            }
        }
    }

    private static void asRefuses() {
        ThreeDays x = new ThreeDays();
        x.rider(-1);
        x.report(0, 8, 0, 0, 0);
        x.report(0, 8, 0, 0, 0);
        DUE.due("11: as(1)", x.as(1), true);
        int[] wrong = {3, -2, 400, Integer.MAX_VALUE, Integer.MIN_VALUE};
        for (int act : wrong) {
            DUE.due("11: as(" + act + ")", x.as(act), false);
            DUE.due("11: it did nothing", x.all(5), 1);
        }
        DUE.due("11: as(2)", x.as(2), true);
        DUE.due("11: at the last act", x.count(0, 8), 2);
    }

    private static void asStaysWhileActsCome() {
        ThreeDays x = new ThreeDays();
        x.rider(-1);
        x.as(0);
        x.report(0, 8, 0, 0, 0);
        DUE.due("11: stays at 0", x.count(0, 8), 0);
        x.as(1);
        x.report(0, 8, 0, 0, 0);
        DUE.due("11: stays at 1", x.count(0, 8), 1);
        x.strike(1);
        DUE.due("11: a later strike is not known", x.count(0, 8), 1);
        x.as(-1);
        DUE.due("11: always the last one", x.count(0, 8), 1);
        DUE.due("24: the last one", x.all(5), 3);
        x.report(0, 8, 0, 0, 0);
        DUE.due("11: goes along", x.count(0, 8), 2);
        DUE.due("24: goes along", x.all(5), 4);
    }
}
