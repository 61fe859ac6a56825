import java.util.ArrayList;
import java.util.List;

/**
 * Calls at the edges that a sentence of the document names.
 *
 * A refused call is looked at twice: what it answers, and that it does nothing. For the latter two objects get the
 * same calls, one of them the refused one too, and then everything that can be asked is asked of both.
 */
final class Edges {
    /** Calls that are made on an object. */
    interface Calls {
        void on(ThreeDays x);
    }

    /** One call, with what it answers. */
    interface Call {
        long on(ThreeDays x);
    }

    /** One call with one number that is tried at its edges. */
    interface Tried {
        long on(ThreeDays x, int number);
    }

    private static final class Question {
        final String name;
        final Call call;

        Question(String name, Call call) {
            this.name = name;
            this.call = call;
        }
    }

    // An object is used for 512 calls; the longest run ahead of the questions has 460.
    private static final int ASKED_AT_ONCE = 50;

    private final Due due;
    private String sentence = "";

    Edges(String test) {
        due = new Due(test);
    }

    /** The promise or term that is looked at from here on, with the sentence's words. */
    void sentence(String words) {
        sentence = words + " | ";
    }

    void finish() {
        due.finish();
    }

    static ThreeDays made(Calls before) {
        ThreeDays x = new ThreeDays();
        before.on(x);
        return x;
    }

    static long number(boolean answer) {
        return answer ? 1 : 0;
    }

    void due(String call, long got, long want) {
        due.due(sentence + call, got, want);
    }

    void due(String call, boolean got, boolean want) {
        due.due(sentence + call, got, want);
    }

    /** On a new object. */
    void answers(String name, Calls before, Call call, long want) {
        due(name, call.on(made(before)), want);
    }

    void refused(String name, Calls before, Call call, long want) {
        answers(name, before, call, want);
        Calls withIt = x -> {
            before.on(x);
            call.on(x);
        };
        alike(name + " did nothing", withIt, before);
    }

    /** What is taken from least to most is tried there, one step inside, one step beyond, and far beyond. */
    void range(String name, Calls before, Tried call, int least, int most, long refusal) {
        int[] within = {least, least + 1, most - 1, most};
        for (int number : within) {
            due(name + " of " + number + " is taken", call.on(made(before), number) != refusal, true);
        }
        int[] beyond = {least - 1, most + 1, Integer.MIN_VALUE, Integer.MAX_VALUE, least - 65536, most + 65536};
        for (int number : beyond) {
            refused(name + " of " + number, before, x -> call.on(x, number), refusal);
        }
    }

    /** After these calls and after those, every question has the same answer. */
    void alike(String name, Calls one, Calls other) {
        askBoth(name, one, other, faults());
        alikeButForFaults(name, one, other);
    }

    void alikeButForFaults(String name, Calls one, Calls other) {
        List<Question> questions = questions(made(other).all(0));
        for (int from = 0; from < questions.size(); from += ASKED_AT_ONCE) {
            askBoth(name, one, other, questions.subList(from, Math.min(from + ASKED_AT_ONCE, questions.size())));
        }
        askBoth(name, one, other, goingOn());
        askBoth(name, one, other, readingOn());
    }

    private void askBoth(String name, Calls one, Calls other, List<Question> questions) {
        ThreeDays x = made(one);
        ThreeDays y = made(other);
        for (Question question : questions) {
            due(name + ": " + question.name, question.call.on(x), question.call.on(y));
        }
    }

    private static List<Question> faults() {
        return List.of(new Question("fault(0)", x -> x.fault(0)), new Question("fault(1)", x -> x.fault(1)));
    }

    /** What only asks. */
    private static List<Question> questions(int riders) {
        List<Question> list = new ArrayList<>();
        for (int i = 0; i < 6; i++) {
            int n = i;
            list.add(new Question("all(" + n + ")", x -> x.all(n)));
            list.add(new Question("team(" + n + ")", x -> x.team(n)));
            list.add(new Question("teamPlace(" + n + ")", x -> x.teamPlace(n)));
        }
        for (int i = 0; i <= riders; i++) {
            int r = i;
            for (int k = 0; k < 18; k++) {
                int what = k;
                list.add(new Question("count(" + r + ", " + what + ")", x -> x.count(r, what)));
            }
            for (int k = 0; k <= 8; k++) {
                int statement = k;
                list.add(new Question("given(" + r + ", " + statement + ")", x -> x.given(r, statement)));
            }
            list.add(new Question("total(" + r + ")", x -> x.total(r)));
            list.add(new Question("isOut(" + r + ")", x -> x.isOut(r)));
            list.add(new Question("against(" + r + ", 0)", x -> x.against(r, 0)));
            list.add(new Question("place(" + r + ")", x -> x.place(r)));
            list.add(new Question("ring(" + r + ")", x -> x.ring(r)));
            list.add(new Question("since(" + r + ")", x -> x.since(r)));
        }
        return list;
    }

    /** What goes on with riders, course and acts: as many came as came before. */
    private static List<Question> goingOn() {
        List<Question> list = new ArrayList<>();
        for (int t = -1; t < 6; t++) {
            int team = t;
            list.add(new Question("rider(" + team + ") then", x -> x.rider(team)));
        }
        list.add(new Question("fence(7) then", x -> x.fence(7)));
        list.add(new Question("clock(2, 1) then", x -> number(x.clock(2, 1))));
        list.add(new Question("strike(1) then", x -> x.strike(1)));
        list.add(new Question("report(0, 8, 0, 0, 0) then", x -> x.report(0, 8, 0, 0, 0)));
        list.add(new Question("report(0, 1, 0, 5, 0) then", x -> x.report(0, 1, 0, 5, 0)));
        list.add(new Question("strike(2) then", x -> x.strike(2)));
        list.add(new Question("count(0, 8) then", x -> x.count(0, 8)));
        list.add(new Question("count(0, 11) then", x -> x.count(0, 11)));
        list.add(new Question("count(0, 15) then", x -> x.count(0, 15)));
        list.add(new Question("all(3) then", x -> x.all(3)));
        list.add(new Question("all(5) then", x -> x.all(5)));
        list.add(new Question("as(-1) then", x -> number(x.as(-1))));
        list.add(new Question("count(0, 15), always the last one, then", x -> x.count(0, 15)));
        list.add(new Question("course(9, 600) then", x -> x.course(9, 600)));
        return list;
    }

    /** What is on the tape. */
    private static List<Question> readingOn() {
        List<Question> list = new ArrayList<>();
        list.add(new Question("feed then", x -> x.feed(0x20202020, 0x20202020, 0x20202020, 0x20202020, 0x20202020)));
        list.add(new Question("rules() then", x -> x.rules()));
        list.add(new Question("fault(0) then", x -> x.fault(0)));
        list.add(new Question("fault(1) then", x -> x.fault(1)));
        list.add(new Question("all(4) then", x -> x.all(4)));
        list.add(new Question("total(0) then", x -> x.total(0)));
        list.add(new Question("given(0, 1) then", x -> x.given(0, 1)));
        list.add(new Question("end(1) then", x -> number(x.end(1))));
        return list;
    }

    /** Some of everything: six riders of three teams and of none, one of them out, and a text on the tape. */
    static void busy(ThreeDays x) {
        int[] teams = {0, 0, 1, 1, 5, -1};
        for (int team : teams) {
            x.rider(team);
        }
        x.fence(400);
        x.fence(0);
        x.fence(333);
        x.course(200, 450);
        x.clock(0, 3);
        x.clock(1, -4);
        x.clock(3, 9);
        x.out(1, 1000);
        Due.rules(x, "total=marks+20*refusals+over/4;late=max(over,1);out if retired>0;tie ring;tie 0-marks;");
        for (int r = 0; r < 6; r++) {
            x.report(r, 0, 0, 50 - 10 * (r % 3), 0);
            x.report(r, 1, 0, 998 + r, 0);
            x.report(r, 3, r % 3, 0, 0);
            x.report(r, 6, (r + 1) % 3, 0, 0);
        }
        x.report(1, 7, 0, 1050, 1060);
        x.report(0, 2, 0, 1170, 0);
        x.report(1, 2, 0, 1110, 0);
        x.report(4, 11, 0, 0, 0);
        x.report(2, 9, 0, 12, 0);
        x.report(2, 8, 0, 0, 0);
        x.report(3, 10, 0, 0, 0);
        x.strike(3);
        x.report(5, 4, 1, 0, 0);
        Due.feed(x, "total=marks-1;tie 8;");
    }

    /** The same, told as known at an act ahead of the last. */
    static void busyBefore(ThreeDays x) {
        busy(x);
        x.as(20);
    }

    static void empty(ThreeDays x) {
        // A new object: nothing is called.
    }

    static void riders(ThreeDays x, int number) {
        for (int n = 0; n < number; n++) {
            x.rider(-1);
        }
    }

    static void fences(ThreeDays x, int number) {
        for (int n = 0; n < number; n++) {
            x.fence(10);
        }
    }
}
