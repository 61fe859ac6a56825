/** Promises 1, 4 and 24: a new object, riders, and all. */
final class RidersTest {
    private static final Due DUE = new Due("RidersTest");

    public static void main(String[] args) {
        newObjectIsEmpty();
        ridersAreNumbered();
        teamsAreFull();
        twentyFourAreAll();
        wrongTeams();
        allTells();
        DUE.finish();
    }

    private static void newObjectIsEmpty() {
        ThreeDays x = new ThreeDays();
        for (int what = 0; what <= 5; what++) {
            DUE.due("1, 24: all(" + what + ")", x.all(what), 0);
        }
        DUE.due("1: no rider's place", x.place(0), -1);
        DUE.due("1: no rider's total", x.total(0), -2000000000000L);
        DUE.due("1: no rider's count", x.count(0, 0), -2000000);
        DUE.due("1: nobody in the ring", x.ring(0), -1);
        DUE.due("1: no team", x.team(0), -1);
        DUE.due("1: no team's place", x.teamPlace(0), -1);
        DUE.due("1: no since", x.since(0), -1);
        DUE.due("1: no fault", x.fault(0), 0);
        DUE.due("1: no fault's place", x.fault(1), -1);
        DUE.due("1: no report to strike", x.strike(1), -1);
        DUE.due("1: act 0 can be asked for", x.as(0), true);
        DUE.due("1: act 1 can not", x.as(1), false);
        x.rider(0);
        DUE.due("1: without rules total is 0", x.total(0), 0);
        DUE.due("1: without rules nobody is out", x.isOut(0), 0);
        DUE.due("1: without rules nothing is given", x.given(0, 0), -2000000000000L);
        ThreeDays other = new ThreeDays();
        DUE.due("1: objects are apart", other.all(0), 0);
    }

    private static void ridersAreNumbered() {
        ThreeDays x = new ThreeDays();
        DUE.due("4: first", x.rider(5), 0);
        DUE.due("4: second", x.rider(-1), 1);
        DUE.due("4: third", x.rider(0), 2);
        DUE.due("24: three", x.all(0), 3);
    }

    private static void teamsAreFull() {
        for (int team = 0; team <= 5; team++) {
            ThreeDays x = new ThreeDays();
            for (int n = 0; n < 4; n++) {
                DUE.due("4: rider " + n + " of team " + team, x.rider(team), n);
            }
            DUE.due("4: a fifth of team " + team, x.rider(team), -1);
            DUE.due("4: another team has room", x.rider((team + 1) % 6), 4);
            DUE.due("24: five came", x.all(0), 5);
        }
    }

    private static void twentyFourAreAll() {
        ThreeDays x = new ThreeDays();
        for (int n = 0; n < 24; n++) {
            DUE.due("4: rider " + n + " of none", x.rider(-1), n);
        }
        DUE.due("4: a 25th of none", x.rider(-1), -1);
        DUE.due("4: a 25th of a team", x.rider(0), -1);
        DUE.due("20: the refused one is of no team", x.team(0), -1);
        DUE.due("24: 24", x.all(0), 24);
        ThreeDays y = new ThreeDays();
        for (int n = 0; n < 24; n++) {
            DUE.due("4: rider " + n + " of six full teams", y.rider(n % 6), n);
        }
        DUE.due("4: a 25th", y.rider(-1), -1);
    }

    private static void wrongTeams() {
        ThreeDays x = new ThreeDays();
        int[] wrong = {6, -2, 7, Integer.MAX_VALUE, Integer.MIN_VALUE};
        for (int team : wrong) {
            DUE.due("4: team " + team, x.rider(team), -1);
            DUE.due("20: team " + team, x.team(team), -1);
            DUE.due("21: team " + team, x.teamPlace(team), -1);
        }
        DUE.due("24: nobody came", x.all(0), 0);
    }

    private static void allTells() {
        ThreeDays x = new ThreeDays();
        x.rider(0);
        x.rider(0);
        x.fence(1000);
        x.report(0, 8, 0, 0, 0);
        x.report(1, 8, 0, 0, 0);
        x.report(1, 8, 0, 0, 0);
        x.strike(2);
        Due.rules(x, "total=1;tie 2;tie 3;tie 4;out if 1<0;");
        DUE.due("24: riders", x.all(0), 2);
        DUE.due("24: fences", x.all(1), 1);
        DUE.due("24: acts", x.all(2), 4);
        DUE.due("24: optimum", x.all(3), 120);
        DUE.due("24: statements", x.all(4), 5);
        DUE.due("24: told as known at", x.all(5), 4);
        x.as(2);
        DUE.due("24: told as known at 2", x.all(5), 2);
        x.report(0, 8, 0, 0, 0);
        DUE.due("24: acts go on", x.all(2), 5);
        DUE.due("24: still as known at 2", x.all(5), 2);
        int[] wrong = {6, -1, -2, 100, Integer.MAX_VALUE, Integer.MIN_VALUE};
        for (int what : wrong) {
            DUE.due("24: all(" + what + ")", x.all(what), -1);
        }
    }
}
