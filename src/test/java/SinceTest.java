/** Promise 23: since. */
final class SinceTest {
    private static final Due DUE = new Due("SinceTest");

    public static void main(String[] args) {
        lastActWithAnotherPlace();
        outIsPlaceNought();
        asBoundsIt();
        coursesAndRulesAsTheyAre();
        nothingIsMoved();
        wrongRiders();
        DUE.finish();
    }

    private static void lastActWithAnotherPlace() {
        ThreeDays x = new ThreeDays();
        x.rider(-1);
        x.rider(-1);
        Due.rules(x, "total=marks;");
        DUE.due("23: no acts", x.since(0), -1);
        x.report(0, 0, 0, 10, 0);
        DUE.due("23: first at 0, second now", x.since(0), 0);
        DUE.due("23: first at 0 and now", x.since(1), -1);
        x.report(1, 0, 0, 20, 0);
        DUE.due("23: second at 1", x.since(0), 1);
        DUE.due("23: first at 1", x.since(1), 1);
        x.report(0, 8, 0, 0, 0);
        x.report(1, 8, 0, 0, 0);
        DUE.due("23: still 1", x.since(0), 1);
        DUE.due("23: still 1", x.since(1), 1);
        x.strike(1);
        DUE.due("23: a strike that moves nobody", x.since(0), 1);
        x.strike(2);
        DUE.due("23: second at 1, as now at 6", x.since(0), 1);
        DUE.due("23: second at 5", x.since(1), 5);
    }

    private static void outIsPlaceNought() {
        ThreeDays x = new ThreeDays();
        x.rider(-1);
        Due.rules(x, "total=0; out if looks>0;");
        x.report(0, 8, 0, 0, 0);
        x.report(0, 10, 0, 0, 0);
        DUE.due("23: not out at 1", x.since(0), 1);
        x.report(0, 10, 0, 0, 0);
        DUE.due("23: still out", x.since(0), 1);
        x.strike(2);
        DUE.due("23: out by the other", x.since(0), 1);
        x.strike(3);
        DUE.due("23: out at 4", x.since(0), 4);
    }

    private static void asBoundsIt() {
        ThreeDays x = new ThreeDays();
        x.rider(-1);
        x.rider(-1);
        Due.rules(x, "total=marks;");
        x.report(0, 0, 0, 10, 0);
        x.report(0, 0, 0, 0, 0);
        x.report(0, 0, 0, 10, 0);
        x.as(0);
        DUE.due("23: told at 0", x.since(0), -1);
        x.as(1);
        DUE.due("23: told at 1", x.since(0), 0);
        x.as(2);
        DUE.due("23: told at 2", x.since(0), 1);
        x.as(3);
        DUE.due("23: told at 3", x.since(0), 2);
        x.report(0, 0, 0, 0, 0);
        DUE.due("23: still told at 3", x.since(0), 2);
        DUE.due("23: the other one", x.since(1), -1);
        x.as(-1);
        DUE.due("23: told at the last", x.since(0), 3);
    }

    private static void coursesAndRulesAsTheyAre() {
        ThreeDays x = new ThreeDays();
        x.rider(-1);
        x.rider(-1);
        x.fence(1);
        x.report(0, 3, 0, 0, 0);
        x.report(0, 1, 0, 500, 0);
        x.report(1, 1, 0, 500, 0);
        DUE.due("23: without rules", x.since(0), -1);
        Due.rules(x, "total=refusals;");
        DUE.due("23: with rules", x.since(0), 0);
        x.out(0, 500);
        DUE.due("23: with the fence taken out", x.since(0), 1);
        x.clock(0, 1);
        DUE.due("23: with the clock put right", x.since(0), 0);
    }

    private static void nothingIsMoved() {
        ThreeDays x = new ThreeDays();
        x.rider(0);
        x.rider(1);
        Due.rules(x, "total=marks;out if retired>0;");
        x.report(0, 0, 0, 10, 0);
        x.report(1, 0, 0, 5, 0);
        x.report(1, 11, 0, 0, 0);
        DUE.due("23: since", x.since(0), 2);
        DUE.due("24: told at", x.all(5), 3);
        DUE.due("16: total", x.total(0), 10);
        DUE.due("17: out", x.isOut(1), 1);
        DUE.due("23: since", x.since(1), 2);
        DUE.due("14: marks", x.count(1, 0), 5);
        DUE.due("20: team", x.team(0), 20010);
        DUE.due("23: since again", x.since(0), 2);
        DUE.due("22: ring", x.ring(0), 0);
        x.report(1, 0, 0, 6, 0);
        DUE.due("15: given", x.given(1, 0), 6);
    }

    private static void wrongRiders() {
        ThreeDays x = new ThreeDays();
        x.rider(-1);
        Due.rules(x, "total=marks;out if marks>0;");
        x.report(0, 0, 0, 1, 0);
        DUE.due("23: since", x.since(0), 0);
        int[] wrong = {-1, 1, 24, Integer.MAX_VALUE, Integer.MIN_VALUE};
        for (int rider : wrong) {
            DUE.due("23: since(" + rider + ")", x.since(rider), -1);
        }
    }
}
