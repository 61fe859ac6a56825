import java.math.BigInteger;
import java.util.ArrayList;
import java.util.HashMap;
import java.util.HashSet;
import java.util.List;
import java.util.Map;
import java.util.Set;

/**
 * The document once more, in another way: nothing is kept but what was said, each answer is made anew
 * from it, sums are worked out from the text, and faults are found by a table of what may come next.
 */
final class Model {
    static final List<String> COUNTS = List.of("marks", "ring", "refusals", "falls", "missed", "first", "second",
        "third", "knocks", "looks", "retired", "unseen", "over", "under", "optimum");
    private static final Set<String> KEPT = Set.of("out", "if", "tie", "max", "min");
    private static final BigInteger LIMIT = BigInteger.TEN.pow(12);
    private static final long NO_SUM = -2000000000000L;

    private final List<Integer> teams = new ArrayList<>();
    private final List<Integer> metres = new ArrayList<>();
    private final Map<Integer, Integer> clocks = new HashMap<>();
    private final Map<Integer, Integer> outs = new HashMap<>();
    private final List<int[]> acts = new ArrayList<>();
    private String tape = "";
    private int endMetres;
    private int speed = 500;
    private int asked = -1;
    private int fault;
    private int faultAt = -1;
    private List<List<String>> statements = new ArrayList<>();

    // What is said.

    int feed(int... numbers) {
        if (tape.length() + 20 > 600) {
            return -1;
        }
        StringBuilder more = new StringBuilder(tape);
        for (int number : numbers) {
            more.append((char) (number >>> 24)).append((char) (number >>> 16 & 255));
            more.append((char) (number >>> 8 & 255)).append((char) (number & 255));
        }
        tape = more.toString();
        return tape.length();
    }

    boolean end(int n) {
        if (n < 0 || n > tape.length()) {
            return false;
        }
        tape = tape.substring(0, n);
        return true;
    }

    int rider(int team) {
        long like = teams.stream().filter(t -> t == team).count();
        if (teams.size() == 24 || team < -1 || team > 5 || team >= 0 && like == 4) {
            return -1;
        }
        teams.add(team);
        return teams.size() - 1;
    }

    int fence(int length) {
        if (length < 0 || length > 2000 || metres.size() == 30) {
            return -1;
        }
        metres.add(length);
        return metres.size();
    }

    int course(int end, int newSpeed) {
        if (end < 0 || end > 2000 || newSpeed < 100 || newSpeed > 700) {
            return -1;
        }
        endMetres = end;
        speed = newSpeed;
        return optimum();
    }

    boolean clock(int post, int ahead) {
        if (post < 0 || post >= metres.size() + 2 || ahead < -600 || ahead > 600) {
            return false;
        }
        clocks.put(post, ahead);
        return true;
    }

    boolean out(int fence, int second) {
        if (fence < 0 || fence >= metres.size() || second < -1 || second > 86399) {
            return false;
        }
        outs.put(fence, second);
        return true;
    }

    int report(int rider, int kind, int fence, int a, int b) {
        boolean isGood = rider >= 0 && rider < teams.size() && kind >= 0 && kind <= 11 && acts.size() < 400;
        if (kind == 0) {
            isGood &= a >= 0 && a <= 10000;
        }
        if (kind == 1 || kind == 2 || kind == 7) {
            isGood &= a >= 0 && a <= 86399;
        }
        if (kind >= 3 && kind <= 7) {
            isGood &= fence >= 0 && fence < metres.size();
        }
        if (kind == 7) {
            isGood &= b >= a && b <= 86399;
        }
        if (kind == 9) {
            isGood &= a >= 0 && a <= 9999;
        }
        if (!isGood) {
            return -1;
        }
        acts.add(new int[] {rider, kind, fence, a, b});
        return acts.size();
    }

    int strike(int act) {
        if (acts.size() == 400 || act < 1 || act > acts.size() || acts.get(act - 1).length == 1) {
            return -1;
        }
        for (int[] other : acts) {
            if (other.length == 1 && other[0] == act) {
                return -1;
            }
        }
        acts.add(new int[] {act});
        return acts.size();
    }

    boolean as(int act) {
        if (act < -1 || act > acts.size()) {
            return false;
        }
        asked = act;
        return true;
    }

    int rules() {
        String text = tape;
        tape = "";
        List<Token> tokens = tokens(text);
        findFault(text, tokens);
        if (fault != 0) {
            return -1;
        }
        statements = new ArrayList<>();
        List<String> statement = new ArrayList<>();
        for (Token token : tokens) {
            if (token.text.equals(";")) {
                statements.add(statement);
                statement = new ArrayList<>();
            } else {
                statement.add(token.text);
            }
        }
        return statements.size();
    }

    int fault(int what) {
        return what == 0 ? fault : what == 1 ? faultAt : -1;
    }

    // The text.

    private static final class Token {
        final String text;
        final int at;

        Token(String text, int at) {
            this.text = text;
            this.at = at;
        }

        boolean isWord() {
            return text.matches("[a-z]+");
        }

        boolean isNumber() {
            return text.matches("[0-9]+");
        }
    }

    private static List<Token> tokens(String text) {
        List<Token> tokens = new ArrayList<>();
        java.util.regex.Matcher m = java.util.regex.Pattern.compile("[a-z]+|[0-9]+|[^\\n ]").matcher(text);
        while (m.find()) {
            tokens.add(new Token(m.group(), m.start()));
        }
        return tokens;
    }

    private void findFault(String text, List<Token> tokens) {
        fault = 0;
        faultAt = -1;
        String state = "statement";
        // What is open: g given, t tie, o and p the sides of an out if, ( a bracket, 1 and 2 the sides of a pair.
        StringBuilder open = new StringBuilder();
        Set<String> given = new HashSet<>();
        String giving = null;
        int number = 0;
        for (Token token : tokens) {
            String t = token.text;
            String next = null;
            int at = token.at;
            int kind = 1;
            char inside = open.length() == 0 ? ' ' : open.charAt(open.length() - 1);
            switch (state) {
                case "statement":
                    giving = null;
                    if (++number > 24 || !token.isWord() || Set.of("if", "max", "min").contains(t)) {
                        break;
                    }
                    if (t.equals("out")) {
                        next = "if";
                        open.append('o');
                    } else if (t.equals("tie")) {
                        next = "operand";
                        open.append('t');
                    } else if (t.length() > 10) {
                        at += 10;
                    } else if (COUNTS.contains(t) || given.contains(t)) {
                        kind = 3;
                    } else {
                        next = "=";
                        giving = t;
                        open.append('g');
                    }
                    break;
                case "if":
                    next = t.equals("if") ? "operand" : null;
                    break;
                case "=":
                    next = t.equals("=") ? "operand" : null;
                    break;
                case "pair":
                    if (t.equals("(") && brackets(open) < 6) {
                        open.append('1');
                        next = "operand";
                    }
                    break;
                case "divisor":
                    if (token.isNumber() && t.length() > 5) {
                        at += 5;
                    } else if (token.isNumber() && Integer.parseInt(t) == 0) {
                        kind = 2;
                    } else if (token.isNumber()) {
                        next = "operator";
                    }
                    break;
                case "operand":
                    if (token.isNumber()) {
                        next = t.length() > 5 ? null : "operator";
                        at += 5;
                    } else if (t.equals("max") || t.equals("min")) {
                        next = "pair";
                    } else if (token.isWord() && !KEPT.contains(t)) {
                        if (t.length() > 10) {
                            at += 10;
                        } else if (COUNTS.contains(t) || given.contains(t)) {
                            next = "operator";
                        } else {
                            kind = 3;
                        }
                    } else if (t.equals("(") && brackets(open) < 6) {
                        open.append('(');
                        next = "operand";
                    }
                    break;
                default:
                    int last = open.length() - 1;
                    if ("+-*".contains(t)) {
                        next = "operand";
                    } else if (t.equals("/")) {
                        next = "divisor";
                    } else if (t.equals(")") && (inside == '(' || inside == '2')) {
                        open.setLength(last);
                        next = "operator";
                    } else if (t.equals(",") && inside == '1') {
                        open.setCharAt(last, '2');
                        next = "operand";
                    } else if ("<>=".contains(t) && inside == 'o') {
                        open.setCharAt(last, 'p');
                        next = "operand";
                    } else if (t.equals(";") && (inside == 'g' || inside == 't' || inside == 'p')) {
                        open.setLength(last);
                        next = "statement";
                        if (giving != null) {
                            given.add(giving);
                        }
                    }
                    break;
            }
            if (next == null) {
                fault = kind;
                faultAt = at;
                return;
            }
            state = next;
        }
        if (!state.equals("statement") || !given.contains("total")) {
            fault = state.equals("statement") ? 4 : 1;
            faultAt = text.length();
        }
    }

    private static int brackets(StringBuilder open) {
        int brackets = 0;
        for (int i = 0; i < open.length(); i++) {
            brackets += "(12".indexOf(open.charAt(i)) >= 0 ? 1 : 0;
        }
        return brackets;
    }

    /** Works out a sum by cutting it at its last + or -, then at its last * or /. */
    private static BigInteger sum(List<String> t, Map<String, BigInteger> known) {
        int cut = lastOutside(t, "+", "-");
        if (cut < 0) {
            cut = lastOutside(t, "*", "/");
        }
        if (cut >= 0) {
            BigInteger left = sum(t.subList(0, cut), known);
            BigInteger right = sum(t.subList(cut + 1, t.size()), known);
            switch (t.get(cut)) {
                case "+":
                    return limited(left.add(right));
                case "-":
                    return limited(left.subtract(right));
                case "*":
                    return limited(left.multiply(right));
                default:
                    return left.subtract(left.mod(right)).divide(right);
            }
        }
        String first = t.get(0);
        if (first.equals("(")) {
            return sum(t.subList(1, t.size() - 1), known);
        }
        if (first.equals("max") || first.equals("min")) {
            List<String> inside = t.subList(2, t.size() - 1);
            int comma = lastOutside(inside, ",", ",");
            BigInteger left = sum(inside.subList(0, comma), known);
            BigInteger right = sum(inside.subList(comma + 1, inside.size()), known);
            return first.equals("max") ? left.max(right) : left.min(right);
        }
        return Character.isDigit(first.charAt(0)) ? new BigInteger(first) : known.get(first);
    }

    private static BigInteger limited(BigInteger number) {
        return number.min(LIMIT).max(LIMIT.negate());
    }

    private static int lastOutside(List<String> t, String one, String other) {
        int depth = 0;
        int last = -1;
        for (int i = 0; i < t.size(); i++) {
            String s = t.get(i);
            depth += s.equals("(") ? 1 : s.equals(")") ? -1 : 0;
            if (depth == 0 && (s.equals(one) || s.equals(other))) {
                last = i;
            }
        }
        return last;
    }

    // What is told.

    private int told() {
        return asked < 0 ? acts.size() : asked;
    }

    private int optimum() {
        int all = endMetres;
        for (int length : metres) {
            all += length;
        }
        int least = 0;
        while ((long) least * speed < 60L * all) {
            least++;
        }
        return least;
    }

    private List<int[]> reports(int rider, int at) {
        Set<Integer> struck = new HashSet<>();
        for (int act = 1; act <= at; act++) {
            if (acts.get(act - 1).length == 1) {
                struck.add(acts.get(act - 1)[0]);
            }
        }
        List<int[]> reports = new ArrayList<>();
        for (int act = 1; act <= at; act++) {
            int[] report = acts.get(act - 1);
            if (report.length == 5 && report[0] == rider && !struck.contains(act)) {
                reports.add(report);
            }
        }
        return reports;
    }

    private static int times(List<int[]> reports, int kind, int fence) {
        int times = 0;
        for (int[] report : reports) {
            if (report[1] == kind && (fence < 0 || report[2] == fence)) {
                times++;
            }
        }
        return times;
    }

    private static Integer last(List<int[]> reports, int kind) {
        Integer last = null;
        for (int[] report : reports) {
            last = report[1] == kind ? Integer.valueOf(report[3]) : last;
        }
        return last;
    }

    int[] counts(int rider, int at) {
        List<int[]> reports = reports(rider, at);
        int[] counts = new int[18];
        Integer marks = last(reports, 0);
        Integer ring = last(reports, 9);
        Integer start = last(reports, 1);
        Integer finish = last(reports, 2);
        counts[0] = marks == null ? 0 : marks;
        counts[1] = ring == null ? 0 : ring;
        counts[15] = start == null ? -1000000 : start - clocks.getOrDefault(0, 0);
        counts[16] = finish == null ? -1000000 : finish - clocks.getOrDefault(1, 0);
        for (int fence = 0; fence < metres.size(); fence++) {
            int from = outs.getOrDefault(fence, -1);
            if (from != -1 && start != null && counts[15] >= from) {
                continue;
            }
            int refusals = times(reports, 3, fence);
            counts[2] += refusals;
            counts[3] += times(reports, 4, fence);
            counts[4] += times(reports, 5, fence);
            for (int n = 1; n <= 3; n++) {
                counts[4 + n] += refusals >= n ? 1 : 0;
            }
            int seen = refusals + times(reports, 4, fence) + times(reports, 5, fence) + times(reports, 6, fence);
            counts[11] += seen == 0 ? 1 : 0;
        }
        counts[8] = times(reports, 8, -1);
        counts[9] = times(reports, 10, -1);
        counts[10] = times(reports, 11, -1);
        counts[14] = optimum();
        counts[17] = -1;
        if (start != null && finish != null) {
            int time = counts[16] - counts[15];
            for (int[] report : reports) {
                time -= report[1] == 7 ? report[4] - report[3] : 0;
            }
            counts[17] = Math.max(time, 0);
            counts[12] = Math.max(counts[17] - counts[14], 0);
            counts[13] = Math.max(counts[14] - counts[17], 0);
        }
        return counts;
    }

    /** What each statement gives; at the end total, and 1 if the rider is out. */
    private long[] values(int rider, int at) {
        int[] counts = counts(rider, at);
        Map<String, BigInteger> known = new HashMap<>();
        for (int i = 0; i < 15; i++) {
            known.put(COUNTS.get(i), BigInteger.valueOf(counts[i]));
        }
        long[] values = new long[statements.size() + 2];
        for (int k = 0; k < statements.size(); k++) {
            List<String> t = statements.get(k);
            BigInteger value;
            if (t.get(0).equals("out")) {
                int sign = Math.max(lastOutside(t, "<", ">"), lastOutside(t, "=", "="));
                int order = sum(t.subList(2, sign), known).compareTo(sum(t.subList(sign + 1, t.size()), known));
                boolean holds = order == "<=>".indexOf(t.get(sign)) - 1;
                value = holds ? BigInteger.ONE : BigInteger.ZERO;
                values[values.length - 1] |= holds ? 1 : 0;
            } else if (t.get(0).equals("tie")) {
                value = sum(t.subList(1, t.size()), known);
            } else {
                value = sum(t.subList(2, t.size()), known);
                known.put(t.get(0), value);
            }
            values[k] = value.longValueExact();
        }
        values[values.length - 2] = known.getOrDefault("total", BigInteger.ZERO).longValueExact();
        return values;
    }

    private boolean has(int rider) {
        return rider >= 0 && rider < teams.size();
    }

    private static long totalOf(long[] values) {
        return values[values.length - 2];
    }

    private static boolean isOff(long[] values) {
        return values[values.length - 1] == 1;
    }

    private int order(long[] a, long[] b) {
        int order = Long.compare(totalOf(a), totalOf(b));
        for (int k = 0; k < statements.size() && order == 0; k++) {
            order = statements.get(k).get(0).equals("tie") ? Long.compare(a[k], b[k]) : 0;
        }
        return Integer.signum(order);
    }

    private int[] places(int at) {
        List<long[]> all = new ArrayList<>();
        for (int rider = 0; rider < teams.size(); rider++) {
            all.add(values(rider, at));
        }
        int[] places = new int[teams.size()];
        for (int rider = 0; rider < places.length; rider++) {
            if (!isOff(all.get(rider))) {
                places[rider] = 1;
                for (long[] other : all) {
                    places[rider] += !isOff(other) && order(other, all.get(rider)) < 0 ? 1 : 0;
                }
            }
        }
        return places;
    }

    int count(int rider, int what) {
        return !has(rider) || what < 0 || what > 17 ? -2000000 : counts(rider, told())[what];
    }

    long given(int rider, int k) {
        return !has(rider) || k < 0 || k >= statements.size() ? NO_SUM : values(rider, told())[k];
    }

    long total(int rider) {
        return has(rider) ? totalOf(values(rider, told())) : NO_SUM;
    }

    int isOut(int rider) {
        return !has(rider) ? -1 : isOff(values(rider, told())) ? 1 : 0;
    }

    int against(int a, int b) {
        if (!has(a) || !has(b) || isOut(a) == 1 || isOut(b) == 1) {
            return -2;
        }
        return order(values(a, told()), values(b, told()));
    }

    int place(int rider) {
        return has(rider) ? places(told())[rider] : -1;
    }

    /** Its sum and its least total. */
    private long[] teamOf(int team) {
        List<Long> totals = new ArrayList<>();
        for (int rider = 0; rider < teams.size(); rider++) {
            if (teams.get(rider) == team && isOut(rider) == 0) {
                totals.add(total(rider));
            }
        }
        totals.sort(null);
        long sum = 0;
        for (int n = 0; n < 3; n++) {
            sum += n < totals.size() ? totals.get(n) : 10000;
        }
        return new long[] {sum, totals.isEmpty() ? 10000 : totals.get(0)};
    }

    private boolean hasTeam(int team) {
        return team >= 0 && team <= 5 && teams.contains(team);
    }

    long team(int team) {
        return hasTeam(team) ? teamOf(team)[0] : -1;
    }

    int teamPlace(int team) {
        if (!hasTeam(team)) {
            return -1;
        }
        long[] own = teamOf(team);
        int place = 1;
        for (int other = 0; other < 6; other++) {
            long[] its = teamOf(other);
            place += hasTeam(other) && (its[0] < own[0] || its[0] == own[0] && its[1] < own[1]) ? 1 : 0;
        }
        return place;
    }

    int ring(int i) {
        int[] places = places(told());
        List<Integer> order = new ArrayList<>();
        for (int place = 24; place >= 1; place--) {
            for (int rider = places.length - 1; rider >= 0; rider--) {
                if (places[rider] == place) {
                    order.add(rider);
                }
            }
        }
        return i >= 0 && i < order.size() ? order.get(i) : -1;
    }

    int since(int rider) {
        int now = place(rider);
        for (int act = told() - 1; has(rider) && act >= 0; act--) {
            if (places(act)[rider] != now) {
                return act;
            }
        }
        return -1;
    }

    int all(int what) {
        int[] all = {teams.size(), metres.size(), acts.size(), optimum(), statements.size(), told()};
        return what >= 0 && what < all.length ? all[what] : -1;
    }
}
