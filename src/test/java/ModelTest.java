import java.util.Random;

/** All promises: runs of calls by chance (the same each time), answered by the class and by the model alike. */
final class ModelTest {
    private static final Due DUE = new Due("ModelTest");
    private static final int[] ODD = {-1, -2, 0, 1, 2, 23, 24, 25, 29, 30, 31, 32, 400, 401, 600, 601, 2001, 86400,
        Integer.MAX_VALUE, Integer.MIN_VALUE};
    private static final String[] PIECES = {"out", "if", "tie", "max", "min", "total", "marks", "ring", "over", "x",
        "abcdefghij", "abcdefghijk", "0", "1", "99999", "123456", "00000", "(", ")", ",", ";", "=", "<", ">", "+",
        "-", "*", "/", " ", "\n", "\t", "A", "out if ", "total=", "tie ", "/0", "((", "))"};

    private final Random chance;
    private final ThreeDays x = new ThreeDays();
    private final Model m = new Model();
    private final String run;
    private final boolean isSlow;

    private ModelTest(int seed) {
        chance = new Random(seed);
        run = "run " + seed + ": ";
        isSlow = seed % 40 == 0;
    }

    public static void main(String[] args) {
        int runs = args.length == 0 ? 400 : Integer.parseInt(args[0]);
        for (int seed = 0; seed < runs; seed++) {
            new ModelTest(seed).go();
        }
        for (int seed = 0; seed < 20 * runs; seed++) {
            new ModelTest(seed).readTexts();
        }
        DUE.finish();
    }

    private void go() {
        int riders = chance.nextInt(26);
        for (int n = 0; n < riders; n++) {
            rider(chance.nextInt(8) - 1 - chance.nextInt(10) / 9);
        }
        int fences = chance.nextInt(chance.nextInt(4) == 0 ? 33 : 8);
        for (int n = 0; n < fences; n++) {
            fence(chance.nextInt(2001));
        }
        rules(text());
        int calls = isSlow ? 420 : 30 + chance.nextInt(150);
        for (int n = 0; n < calls; n++) {
            if (chance.nextInt(isSlow ? 100 : 3) == 0) {
                ask();
            } else {
                say();
            }
        }
        for (int n = 0; n < 20; n++) {
            ask();
        }
    }

    private void readTexts() {
        for (int n = 0; n < 5; n++) {
            rules(chance.nextBoolean() ? damaged(text()) : text());
            due("all(4)", x.all(4), m.all(4));
        }
    }

    private void due(String call, long got, long want) {
        DUE.due(run + call, got, want);
    }

    private int odd() {
        return ODD[chance.nextInt(ODD.length)];
    }

    private int some(int bound) {
        return chance.nextInt(30) == 0 ? odd() : chance.nextInt(bound);
    }

    private int someRider() {
        return some(Math.max(1, m.all(0)));
    }

    private int someFence() {
        return some(Math.max(1, m.all(1)));
    }

    private void rider(int team) {
        due("rider(" + team + ")", x.rider(team), m.rider(team));
    }

    private void fence(int metres) {
        due("fence(" + metres + ")", x.fence(metres), m.fence(metres));
    }

    private void rules(String text) {
        String cut = text.length() > 600 ? text.substring(0, 600) : text;
        for (int at = 0; at < cut.length(); at += 20) {
            int[] f = new int[5];
            for (int i = 0; i < 5; i++) {
                f[i] = Due.four(cut, at + 4 * i);
            }
            due("feed", x.feed(f[0], f[1], f[2], f[3], f[4]), m.feed(f));
        }
        due("end(" + cut.length() + ")", x.end(cut.length()) ? 1 : 0, m.end(cut.length()) ? 1 : 0);
        String call = "rules() of '" + cut + "'";
        due(call, x.rules(), m.rules());
        due("fault(0) behind " + call, x.fault(0), m.fault(0));
        due("fault(1) behind " + call, x.fault(1), m.fault(1));
    }

    private void say() {
        int kind = chance.nextInt(60);
        if (kind == 0) {
            rider(some(7) - 1);
        } else if (kind == 1) {
            fence(some(2001));
        } else if (kind == 2) {
            int end = some(2001);
            int speed = chance.nextInt(8) == 0 ? odd() : 100 + chance.nextInt(601);
            due("course(" + end + ", " + speed + ")", x.course(end, speed), m.course(end, speed));
        } else if (kind == 3 || kind == 4) {
            int post = some(m.all(1) + 2);
            int ahead = chance.nextInt(1202) - 601;
            due("clock(" + post + ", " + ahead + ")", x.clock(post, ahead) ? 1 : 0, m.clock(post, ahead) ? 1 : 0);
        } else if (kind == 5 || kind == 6) {
            int fence = someFence();
            int second = chance.nextInt(4) == 0 ? odd() : 1000 + chance.nextInt(20);
            due("out(" + fence + ", " + second + ")", x.out(fence, second) ? 1 : 0, m.out(fence, second) ? 1 : 0);
        } else if (kind == 7) {
            rules(chance.nextInt(3) == 0 ? damaged(text()) : text());
        } else if (kind <= 12) {
            int act = chance.nextInt(3) == 0 ? -1 : some(m.all(2) + 2) - 1;
            due("as(" + act + ")", x.as(act) ? 1 : 0, m.as(act) ? 1 : 0);
        } else if (kind <= 20) {
            int act = some(m.all(2) + 2);
            due("strike(" + act + ")", x.strike(act), m.strike(act));
        } else {
            report();
        }
    }

    private void report() {
        int rider = someRider();
        int kind = some(12);
        int fence = someFence();
        int a = chance.nextInt(20) == 0 ? odd() : chance.nextInt(kind == 0 || kind == 9 ? 12 : 1040);
        if (kind == 1) {
            a = 990 + chance.nextInt(40);
        }
        int b = chance.nextInt(20) == 0 ? odd() : a + chance.nextInt(100) - 2;
        String call = "report(" + rider + ", " + kind + ", " + fence + ", " + a + ", " + b + ")";
        due(call, x.report(rider, kind, fence, a, b), m.report(rider, kind, fence, a, b));
    }

    private void ask() {
        int r = someRider();
        int other = someRider();
        int team = some(6);
        int what = some(18);
        int k = some(6);
        switch (chance.nextInt(isSlow ? 10 : 11)) {
            case 0:
                due("count(" + r + ", " + what + ")", x.count(r, what), m.count(r, what));
                break;
            case 1:
                due("given(" + r + ", " + k + ")", x.given(r, k), m.given(r, k));
                break;
            case 2:
                due("total(" + r + ")", x.total(r), m.total(r));
                break;
            case 3:
                due("isOut(" + r + ")", x.isOut(r), m.isOut(r));
                break;
            case 4:
                due("against(" + r + ", " + other + ")", x.against(r, other), m.against(r, other));
                break;
            case 5:
                due("place(" + r + ")", x.place(r), m.place(r));
                break;
            case 6:
                due("team(" + team + ")", x.team(team), m.team(team));
                break;
            case 7:
                due("teamPlace(" + team + ")", x.teamPlace(team), m.teamPlace(team));
                break;
            case 8:
                due("ring(" + r + ")", x.ring(r), m.ring(r));
                break;
            case 9:
                due("all(" + k + ")", x.all(k), m.all(k));
                break;
            default:
                due("since(" + r + ")", x.since(r), m.since(r));
                break;
        }
    }

    // Texts: good ones by the grammar, and then some damage.

    private String text() {
        StringBuilder text = new StringBuilder();
        String known = "";
        int statements = chance.nextInt(12) == 0 ? 20 + chance.nextInt(8) : 1 + chance.nextInt(7);
        int total = chance.nextInt(20) == 0 ? -1 : chance.nextInt(statements);
        for (int k = 0; k < statements && text.length() < 500; k++) {
            int kind = chance.nextInt(4);
            if (k == total) {
                text.append("total").append(blank()).append('=').append(sum(2, known));
                known += " total";
            } else if (kind == 0) {
                text.append("out ").append(blank()).append("if ").append(sum(2, known));
                text.append("<>=".charAt(chance.nextInt(3))).append(sum(2, known));
            } else if (kind == 1) {
                text.append("tie ").append(sum(2, known));
            } else {
                String name = "n" + (char) ('a' + k % 26);
                text.append(name).append('=').append(sum(2, known));
                known += " " + name;
            }
            text.append(blank()).append(';').append(blank());
        }
        return text.toString();
    }

    private String blank() {
        return chance.nextInt(3) == 0 ? chance.nextBoolean() ? " " : "\n" : "";
    }

    private String sum(int depth, String known) {
        StringBuilder sum = new StringBuilder(product(depth, known));
        while (chance.nextInt(3) == 0) {
            sum.append(blank()).append(chance.nextBoolean() ? '+' : '-').append(product(depth, known));
        }
        return sum.toString();
    }

    private String product(int depth, String known) {
        StringBuilder product = new StringBuilder(factor(depth, known));
        while (chance.nextInt(3) == 0) {
            if (chance.nextInt(3) == 0) {
                product.append('/').append(blank()).append(1 + chance.nextInt(chance.nextBoolean() ? 9 : 99999));
            } else {
                product.append('*').append(factor(depth, known));
            }
        }
        return product.toString();
    }

    private String factor(int depth, String known) {
        String[] names = (String.join(" ", Model.COUNTS) + known).split(" ");
        int kind = chance.nextInt(depth > 0 ? 8 : 5);
        if (kind <= 2) {
            return blank() + names[chance.nextInt(names.length)] + blank();
        }
        if (kind <= 4) {
            return blank() + chance.nextInt(chance.nextInt(3) == 0 ? 100000 : 5) + blank();
        }
        if (kind == 5) {
            return blank() + "(" + sum(depth - 1, known) + ")";
        }
        String pair = sum(depth - 1, known) + "," + sum(depth - 1, known);
        return (kind == 6 ? " max" : " min") + blank() + "(" + pair + ")" + blank();
    }

    private String damaged(String text) {
        StringBuilder damaged = new StringBuilder(text);
        int times = 1 + chance.nextInt(2);
        for (int n = 0; n < times; n++) {
            int at = chance.nextInt(damaged.length() + 1);
            int kind = chance.nextInt(5);
            if (kind == 0 && at < damaged.length()) {
                damaged.deleteCharAt(at);
            } else if (kind == 1) {
                damaged.setLength(at);
            } else if (kind == 2 && at < damaged.length()) {
                damaged.setCharAt(at, (char) chance.nextInt(256));
            } else {
                damaged.insert(at, PIECES[chance.nextInt(PIECES.length)]);
            }
        }
        return damaged.toString();
    }
}
