import java.util.ArrayList;
import java.util.List;
import java.util.Random;

/**
 * What the document says of all calls together. Two objects are told the same in two ways and asked everything,
 * or one object's answers are held against one another; no second writing of the document is needed for that.
 */
final class WholeTest {
    private static final Due DUE = new Due("WholeTest");
    private static final int RUNS = 60;
    private static final int RIDERS = 8;
    private static final int FENCES = 4;
    private static final String[] TEXTS = {
        "pen=20*refusals+60*missed;total=marks+pen+over/3+4*knocks;out if third+falls>0;out if retired>0;tie under;tie ring;",
        "total=marks/4-unseen*3;tie 0-looks;tie max(ring,over)/5;out if missed>1;",
        "total=0;tie optimum;tie refusals-falls;",
        "x=(marks-6)*(ring-5);total=min(x,first*10)-second;out if x=0-1;tie third;"};

    private final Random chance;
    private final String run;
    private final List<int[]> acts = new ArrayList<>();
    private final List<int[]> settings = new ArrayList<>();
    private final String text;

    private WholeTest(int seed) {
        chance = new Random(seed);
        run = "run " + seed + ": ";
        text = TEXTS[seed % TEXTS.length];
        int number = 5 + chance.nextInt(35);
        for (int act = 1; act <= number; act++) {
            acts.add(someAct(act));
        }
        for (int n = 0; n < 6; n++) {
            settings.add(someSetting());
        }
    }

    public static void main(String[] args) {
        for (int seed = 0; seed < RUNS; seed++) {
            new WholeTest(seed).go();
        }
        DUE.finish();
    }

    private void go() {
        asKnownAtAnyTime();
        inAnyOrder();
        askedBetween();
        notSoAnyMore();
        standing();
        sinceIsLookedBack();
    }

    /** A strike has the act alone. One act in five strikes a report that stands. */
    private int[] someAct(int act) {
        int struck = act == 1 ? 0 : 1 + chance.nextInt(act - 1);
        if (chance.nextInt(5) == 0 && stands(struck)) {
            return new int[] {struck};
        }
        int kind = chance.nextInt(12);
        int a = kind == 0 || kind == 9 ? chance.nextInt(12) : 990 + chance.nextInt(30);
        if (kind == 2) {
            a += chance.nextInt(200);
        }
        return new int[] {chance.nextInt(RIDERS), kind, chance.nextInt(FENCES), a, a + chance.nextInt(9)};
    }

    private boolean stands(int act) {
        if (act < 1 || acts.get(act - 1).length == 1) {
            return false;
        }
        return acts.stream().noneMatch(other -> other.length == 1 && other[0] == act);
    }

    private int[] someSetting() {
        int which = chance.nextInt(3);
        int[][] all = {{0, chance.nextInt(500), 400 + chance.nextInt(300)},
            {1, chance.nextInt(2 + FENCES), chance.nextInt(21) - 10}, {2, chance.nextInt(FENCES), 995 + chance.nextInt(20)}};
        return all[which];
    }

    private static void begin(ThreeDays x) {
        for (int r = 0; r < RIDERS; r++) {
            x.rider(r % 4 - 1);
        }
        for (int f = 0; f < FENCES; f++) {
            x.fence(100 + 50 * f);
        }
    }

    private void set(ThreeDays x) {
        for (int[] s : settings) {
            set(x, s);
        }
        Due.rules(x, text);
    }

    private static void set(ThreeDays x, int[] s) {
        if (s[0] == 0) {
            x.course(s[1], s[2]);
        } else if (s[0] == 1) {
            x.clock(s[1], s[2]);
        } else {
            x.out(s[1], s[2]);
        }
    }

    private static int act(ThreeDays x, int[] act) {
        return act.length == 1 ? x.strike(act[0]) : x.report(act[0], act[1], act[2], act[3], act[4]);
    }

    private ThreeDays told(int number) {
        ThreeDays x = new ThreeDays();
        begin(x);
        set(x);
        for (int n = 0; n < number; n++) {
            DUE.due(run + "9, 10: act " + (n + 1), act(x, acts.get(n)), n + 1);
        }
        return x;
    }

    /** One rider, all teams and the ring: some fifty questions. */
    private void alike(String name, ThreeDays x, ThreeDays y, int r) {
        for (int what = 0; what <= 17; what++) {
            DUE.due(run + name + ": count(" + r + ", " + what + ")", x.count(r, what), y.count(r, what));
        }
        for (int k = 0; k < 6; k++) {
            DUE.due(run + name + ": given(" + r + ", " + k + ")", x.given(r, k), y.given(r, k));
            DUE.due(run + name + ": ring(" + k + ")", x.ring(k), y.ring(k));
        }
        DUE.due(run + name + ": total(" + r + ")", x.total(r), y.total(r));
        DUE.due(run + name + ": isOut(" + r + ")", x.isOut(r), y.isOut(r));
        DUE.due(run + name + ": place(" + r + ")", x.place(r), y.place(r));
        DUE.due(run + name + ": against(" + r + ", 0)", x.against(r, 0), y.against(r, 0));
        DUE.due(run + name + ": all(3)", x.all(3), y.all(3));
        for (int team = 0; team < 3; team++) {
            DUE.due(run + name + ": team(" + team + ")", x.team(team), y.team(team));
            DUE.due(run + name + ": teamPlace(" + team + ")", x.teamPlace(team), y.teamPlace(team));
        }
    }

    /** As known at an act is as if no act had come behind it. */
    private void asKnownAtAnyTime() {
        for (int n = 0; n < 6; n++) {
            int t = chance.nextInt(acts.size() + 1);
            int r = chance.nextInt(RIDERS);
            ThreeDays x = told(acts.size());
            ThreeDays y = told(t);
            DUE.due(run + "11: as(" + t + ")", x.as(t), true);
            String name = "11, II: as known at " + t;
            alike(name, x, y, r);
            DUE.due(run + name + ": since(" + r + ")", x.since(r), y.since(r));
            DUE.due(run + name + ": all(5)", x.all(5), y.all(5));
            DUE.due(run + name + ": all(2)", x.all(2), acts.size());
        }
    }

    /** The course, clocks, fences taken out and rules hold for reports that came before them too. */
    private void inAnyOrder() {
        for (int r = 0; r < RIDERS; r++) {
            boolean areRulesLast = r % 2 == 0;
            ThreeDays late = new ThreeDays();
            begin(late);
            if (!areRulesLast) {
                Due.rules(late, text);
            }
            for (int n = 0; n < acts.size(); n++) {
                act(late, acts.get(n));
            }
            for (int[] s : settings) {
                late.place(r);
                set(late, s);
            }
            if (areRulesLast) {
                late.place(r);
                Due.rules(late, text);
            }
            ThreeDays early = told(acts.size());
            alike("I, III: said behind the reports", late, early, r);
            DUE.due(run + "23: as they are: since(" + r + ")", late.since(r), early.since(r));
        }
    }

    /** What was asked on the way changes nothing of what is told at the end. */
    private void askedBetween() {
        int r = chance.nextInt(RIDERS);
        ThreeDays x = new ThreeDays();
        begin(x);
        Due.rules(x, text);
        for (int n = 0; n < acts.size(); n++) {
            if (n < settings.size()) {
                set(x, settings.get(n));
            }
            act(x, acts.get(n));
            x.place(r);
            x.since(chance.nextInt(RIDERS));
            x.as(chance.nextInt(n + 2));
            x.count(r, chance.nextInt(18));
            x.ring(0);
        }
        for (int n = acts.size(); n < settings.size(); n++) {
            set(x, settings.get(n));
        }
        x.as(-1);
        alike("asked between", x, told(acts.size()), r);
    }

    /** Without the reports that were struck and without their strikes all is told alike. */
    private void notSoAnyMore() {
        for (int r = 0; r < RIDERS; r++) {
            ThreeDays x = new ThreeDays();
            begin(x);
            set(x);
            for (int n = 0; n < acts.size(); n++) {
                if (stands(n + 1)) {
                    act(x, acts.get(n));
                }
            }
            alike("II: it is not so any more", told(acts.size()), x, r);
        }
    }

    private void standing() {
        ThreeDays x = told(acts.size());
        int placed = 0;
        for (int r = 0; r < RIDERS; r++) {
            int ahead = 0;
            for (int other = 0; other < RIDERS; other++) {
                ahead += x.against(other, r) == -1 ? 1 : 0;
            }
            boolean isOut = x.isOut(r) == 1;
            placed += isOut ? 0 : 1;
            DUE.due(run + "19: one more than are ahead, " + r, x.place(r), isOut ? 0 : 1 + ahead);
            DUE.due(run + "17, 18: out against itself, " + r, x.against(r, r), isOut ? -2 : 0);
        }
        for (int i = 1; i < placed; i++) {
            int before = x.ring(i - 1);
            int behind = x.ring(i);
            boolean isInOrder = x.place(before) > x.place(behind) || x.place(before) == x.place(behind) && before > behind;
            DUE.due(run + "22: in reverse order, " + i, isInOrder, true);
        }
        DUE.due(run + "22: all who are not out, and no more", x.ring(placed), -1);
        DUE.due(run + "22: the last of them", placed == 0 || x.place(x.ring(placed - 1)) == 1, true);
    }

    private void sinceIsLookedBack() {
        for (int n = 0; n < 3; n++) {
            int r = chance.nextInt(RIDERS);
            int t = chance.nextInt(acts.size() + 1);
            ThreeDays x = told(acts.size());
            x.as(t);
            int now = x.place(r);
            int since = x.since(r);
            int want = -1;
            for (int act = 0; act < t; act++) {
                x.as(act);
                want = x.place(r) != now ? act : want;
            }
            DUE.due(run + "23: since(" + r + ") at " + t, since, want);
        }
    }
}
