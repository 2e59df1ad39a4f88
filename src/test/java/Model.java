import java.math.BigInteger;
import java.util.ArrayList;
import java.util.Arrays;
import java.util.HashMap;
import java.util.List;
import java.util.Map;
import java.util.TreeMap;
import java.util.regex.Matcher;
import java.util.regex.Pattern;

/**
 * The document once more, written from its words alone with the Java library, slow and without any sharing:
 * what it tells is compared with what BridgeAwake answers. It takes the call's name, so that one list of calls
 * runs through both.
 */
final class Model {
    static final int BAD = -1, FULL = -2, FINDING = -3, STATE = -4, SPENT = -6, NONE = -9;

    record One(char letter, int lively, int lasts) { }

    record Deed(char what, int a, int b) { }

    /** A BRIDGE at some time; new ones are made of old ones. */
    record Bridge(int strength, int coffee, int hours, List<Integer> ups, int crossed, int fell, List<Deed> deeds) { }

    final Map<Integer, List<Integer>> rows = new TreeMap<>();
    final Map<Integer, byte[]> texts = new TreeMap<>();
    final Map<Integer, Bridge> kept = new HashMap<>();
    List<One> people = new ArrayList<>();
    List<List<Integer>> quarrels = new ArrayList<>();
    Bridge first = new Bridge(0, 0, 0, List.of(), 0, 0, List.of());
    Bridge now = first;
    int asked = 0;
    BigInteger upper = BigInteger.ZERO, lower = BigInteger.ONE;
    int finding = 0;
    final int[] findings = new int[6];

    long call(String name, int[] a) {
        switch (name) {
            case "row": return isRow(a[0]) && a[1] <= 40 ? a[1] < 0 ? found(5) : makeRow(a[0], new int[a[1]]) : BAD;
            case "lay": return place(a[0], a[1], a[2], true);
            case "at": return place(a[0], a[1], 0, false);
            case "tear": return !isRow(a[0]) ? BAD : rows.remove(a[0]) == null ? found(1) : 1;
            case "copy": return copy(a[0], a[1], a[2], a[3], a[4]);
            case "mean": return mean(a[0]);
            case "text": return text(a[0], a[1]);
            case "put": return put(a[0], a[1], a[2]);
            case "fault": return !isText(a[0]) ? BAD : !texts.containsKey(a[0]) ? found(1) : faultOf(texts.get(a[0]));
            case "bridge": return bridge(a[0]);
            case "one": return !isOne(a[0]) || a[1] < 0 || a[1] > 5 ? BAD : tell(fact(a[0], a[1]));
            case "mark": return mark(a[0], a[1]);
            case "talk": return isPair(a[0], a[1]) ? talk(now, a[0], a[1]) : BAD;
            case "watch": return isPair(a[0], a[1]) ? act(new Deed('w', a[0], a[1])) : BAD;
            case "load": return a[0] < 0 || a[0] > 60 ? BAD : people.isEmpty() ? STATE : act(new Deed('l', a[0], 0));
            case "coffee": return !isOne(a[0]) ? BAD : now.ups.get(a[0]) == 0 ? STATE : now.coffee == 0 ? SPENT
                    : act(new Deed('c', a[0], 0));
            case "undo": return undo(a[0]);
            case "keep": return keep(a[0]);
            case "on": return on(a[0]);
            default: return callAside(name, a);
        }
    }

    private long callAside(String name, int[] a) {
        switch (name) {
            case "best": return best(a[0], a[1]);
            case "through": return through(a[0]);
            case "when": return when(a[0], a[1]);
            case "bear": return bear(a[0]);
            case "sagged": return sagged(a[0]);
            case "sure": return sure(a[0]);
            case "lasts": return lasts(a[0], a[1]);
            case "kinds": return kinds(a[0], a[1]);
            case "test": return test(a[0], a[1]);
            case "pairs": return pairs(a[0]);
            case "duel": return a[0] < 0 || a[0] > 3 ? BAD : people.isEmpty() ? STATE : duel(now, a[0], true);
            case "odds": return odds(a[0], a[1], a[2], a[3]);
            case "mid": return mid(a[0], a[1], a[2]);
            case "lots": return lots(a[0], a[1]);
            case "asked": return asked;
            case "upper": return upper.longValueExact();
            case "lower": return lower.longValueExact();
            case "count": return a[0] < 0 || a[0] > 10 ? BAD : count(a[0]);
            case "finding": return finding;
            case "findings": return a[0] < 1 || a[0] > 5 ? BAD : findings[a[0]];
            case "digest": return digest();
            default: throw new IllegalArgumentException(name);
        }
    }

    private static boolean isRow(int r) {
        return r >= 0 && r <= 5;
    }

    private static boolean isText(int t) {
        return t >= 0 && t <= 3;
    }

    private boolean isOne(int i) {
        return i >= 0 && i < people.size();
    }

    private boolean isPair(int i, int j) {
        return isOne(i) && isOne(j) && i != j;
    }

    private int found(int f) {
        finding = f;
        findings[f]++;
        return FINDING;
    }

    private int tell(int v) {
        asked = v;
        return 1;
    }

    private int makeRow(int r, int... places) {
        List<Integer> row = new ArrayList<>();
        for (int v : places) {
            row.add(v);
        }
        rows.put(r, row);
        return places.length;
    }

    private int place(int r, int i, int v, boolean lay) {
        if (!isRow(r)) {
            return BAD;
        }
        List<Integer> row = rows.get(r);
        if (row == null) {
            return found(1);
        }
        if (i < 0 || i >= row.size()) {
            return found(2);
        }
        return tell(lay ? row.set(i, v) : row.get(i));
    }

    private int copy(int r, int i, int to, int j, int n) {
        if (!isRow(r) || !isRow(to)) {
            return BAD;
        }
        if (n < 0) {
            return found(5);
        }
        if (!rows.containsKey(r) || !rows.containsKey(to)) {
            return found(1);
        }
        List<Integer> from = new ArrayList<>(rows.get(r));
        List<Integer> target = rows.get(to);
        if (i < 0 || j < 0 || (long) i + n > from.size() || (long) j + n > target.size()) {
            return found(2);
        }
        for (int k = 0; k < n; k++) {
            target.set(j + k, from.get(i + k));
        }
        return 1;
    }

    private int mean(int r) {
        if (!isRow(r)) {
            return BAD;
        }
        if (!rows.containsKey(r)) {
            return found(1);
        }
        if (rows.get(r).isEmpty()) {
            return found(4);
        }
        BigInteger sum = BigInteger.ZERO;
        for (int v : rows.get(r)) {
            sum = sum.add(BigInteger.valueOf(v));
        }
        return tell(sum.divide(BigInteger.valueOf(rows.get(r).size())).intValueExact());
    }

    private int text(int t, int n) {
        if (!isText(t) || n > 60) {
            return BAD;
        }
        if (n < 0) {
            return found(5);
        }
        byte[] bytes = new byte[n];
        Arrays.fill(bytes, (byte) ' ');
        texts.put(t, bytes);
        return n;
    }

    private int put(int t, int i, int v) {
        if (!isText(t)) {
            return BAD;
        }
        byte[] bytes = texts.get(t);
        if (bytes == null) {
            return found(1);
        }
        if (i < 0 || i >= bytes.length) {
            return found(2);
        }
        int was = bytes[i];
        bytes[i] = (byte) v;
        return 1000 + was;
    }

    // ---- the language, by asking of ever longer beginnings whether some TEXT begins so

    private static String signs(byte[] bytes) {
        StringBuilder signs = new StringBuilder();
        for (byte b : bytes) {
            signs.append(b >= 0 ? (char) b : '?');
        }
        return signs.toString();
    }

    /** The first place whose sign no TEXT has behind those ahead; two figures go together. */
    private static int faultOf(byte[] bytes) {
        String signs = signs(bytes);
        for (int n = 1; n <= signs.length(); n++) {
            if (!canBegin(signs.substring(0, n))) {
                boolean strengthTooGreat = Pattern.matches(" *h[0-9][0-9]", signs.substring(0, n));
                return strengthTooGreat ? n - 2 : n - 1;
            }
        }
        return isWhole(signs) ? NONE : signs.length();
    }

    private static final Pattern BEGINNING = Pattern.compile(
            " *(h([0-9]([0-9]([0-9] *([tblcpw][0-9][0-9] *|q[0-9][0-9] *)*([tblcpw][0-9]?|q[0-9]?)?)?)?)?)?");

    private static boolean canBegin(String signs) {
        if (!BEGINNING.matcher(signs).matches()) {
            return false;
        }
        Matcher head = Pattern.compile(" *h([0-9][0-9]).*").matcher(signs);
        if (head.matches() && Integer.parseInt(head.group(1)) > 40) {
            return false;
        }
        int there = 0;
        int begin = signs.indexOf('h') + 4;
        for (int i = begin; i < signs.length(); i++) {
            char sign = signs.charAt(i);
            if ("tblcpw".indexOf(sign) >= 0) {
                there++;
            } else if (sign == 'q') {
                int one = i + 1 < signs.length() ? signs.charAt(i + 1) - '0' : -1;
                int other = i + 2 < signs.length() ? signs.charAt(i + 2) - '0' : -1;
                if (one >= there || other >= there || (one >= 0 && one == other)) {
                    return false;
                }
            }
        }
        return there <= 6;
    }

    private static boolean isWhole(String signs) {
        return Pattern.matches(" *h[0-9]{3} *([tblcpwq][0-9][0-9] *)*", signs)
                && signs.replaceAll("[^tblcpw]", "").length() >= 2;
    }

    private int bridge(int t) {
        if (!isText(t)) {
            return BAD;
        }
        if (!texts.containsKey(t)) {
            return found(1);
        }
        if (faultOf(texts.get(t)) != NONE) {
            return STATE;
        }
        String signs = signs(texts.get(t)).replace(" ", "");
        people = new ArrayList<>();
        quarrels = new ArrayList<>();
        List<Integer> ups = new ArrayList<>();
        for (int i = 4; i < signs.length(); i += 3) {
            int one = signs.charAt(i + 1) - '0';
            int other = signs.charAt(i + 2) - '0';
            if (signs.charAt(i) == 'q') {
                quarrels.add(List.of(one, other));
                quarrels.add(List.of(other, one));
            } else {
                people.add(new One(signs.charAt(i), one, other));
                ups.add(0);
            }
        }
        first = new Bridge(Integer.parseInt(signs.substring(1, 3)), signs.charAt(3) - '0', 0, ups, 0, 0, List.of());
        now = first;
        kept.clear();
        return people.size();
    }

    // ---- what one TELLS, what a PAIR tells

    private static final String LETTERS = "tblcpw";

    private static int tells(One one, int up, int hours) {
        int hour = hours % 12;
        int plain = one.lively;
        for (int late = one.lasts; late < up; late++) {
            plain -= 2;
        }
        plain = plain < 0 ? 0 : plain;
        switch (one.letter) {
            case 't': return plain;
            case 'b': return plain / 2;
            case 'l': return hour < 4 ? plain + 2 : plain;
            case 'c': return hour < 3 ? plain + 3 : 0;
            case 'p': return plain / 2 == 0 ? 0 : plain / 2 - 1;
            default: return tells(new One('l', one.lively, one.lasts), 0, hours);
        }
    }

    private int tellsNow(Bridge b, int i) {
        return tells(people.get(i), b.ups.get(i), b.hours);
    }

    private int together(Bridge b, int i, int j) {
        return tellsNow(b, i) + tellsNow(b, j) - (quarrels.contains(List.of(i, j)) ? 3 : 0);
    }

    private int talk(Bridge b, int i, int j) {
        int both = Math.max(0, together(b, i, j));
        return people.get(i).letter == 'p' || people.get(j).letter == 'p' ? both / 2 : both;
    }

    private int fact(int i, int what) {
        One one = people.get(i);
        int bits = 0;
        for (int j = 0; j < people.size(); j++) {
            bits += quarrels.contains(List.of(i, j)) ? 1 << j : 0;
        }
        return new int[] {LETTERS.indexOf(one.letter), one.lively, one.lasts, now.ups.get(i), tellsNow(now, i), bits}[what];
    }

    private int mark(int i, int kind) {
        if (!isOne(i) || kind < 1 || kind > 5) {
            return BAD;
        }
        One one = people.get(i);
        String are = new String[] {"", "bp", "lw", "c", "p", "w"}[kind];
        if (are.indexOf(one.letter) < 0) {
            return found(3);
        }
        int up = now.ups.get(i);
        int hours = 0;
        int others = 0;
        switch (kind) {
            case 1: return tells(new One('t', one.lively, one.lasts), up, now.hours) - tellsNow(now, i);
            case 2:
                while ((now.hours + hours) % 12 >= 4) {
                    hours++;
                }
                return hours;
            case 3:
                while ((now.hours + hours) % 12 < 3) {
                    hours++;
                }
                return hours;
            case 4:
                for (int j = 0; j < people.size(); j++) {
                    others += j != i && together(now, i, j) > 0 ? 1 : 0;
                }
                return others;
            default: return tellsNow(now, i) - tells(new One('l', one.lively, one.lasts), up, now.hours);
        }
    }

    // ---- DEEDS

    private Bridge behindWatch(Bridge b, int i, int j) {
        List<Integer> ups = new ArrayList<>();
        for (int k = 0; k < people.size(); k++) {
            int up = b.ups.get(k);
            ups.add(k == i || k == j ? Math.min(30, up + 1) : Math.max(0, up - 2));
        }
        int strength = Math.min(60, b.strength / 2 + talk(b, i, j));
        return new Bridge(strength, b.coffee, b.hours + 1, ups, b.crossed, b.fell, b.deeds);
    }

    private Bridge behind(Bridge b, Deed deed) {
        List<Deed> deeds = new ArrayList<>(b.deeds);
        deeds.add(deed);
        if (deed.what == 'w') {
            Bridge then = behindWatch(b, deed.a, deed.b);
            return new Bridge(then.strength, b.coffee, then.hours, then.ups, b.crossed, b.fell, deeds);
        }
        if (deed.what == 'l') {
            boolean crosses = b.strength >= deed.a;
            return new Bridge(crosses ? b.strength : 0, b.coffee, b.hours, b.ups, b.crossed + (crosses ? 1 : 0),
                    b.fell + (crosses ? 0 : 1), deeds);
        }
        List<Integer> ups = new ArrayList<>(b.ups);
        ups.set(deed.a, 0);
        return new Bridge(b.strength, b.coffee - 1, b.hours, ups, b.crossed, b.fell, deeds);
    }

    private int act(Deed deed) {
        if (now.deeds.size() >= 40) {
            return FULL;
        }
        int crossed = now.crossed;
        now = behind(now, deed);
        return deed.what == 'w' ? now.strength : deed.what == 'l' ? now.crossed - crossed : now.coffee;
    }

    private int undo(int n) {
        List<Deed> deeds = now.deeds;
        if (n < 0 || n > deeds.size()) {
            return BAD;
        }
        now = first;
        for (Deed deed : deeds.subList(0, n)) {
            now = behind(now, deed);
        }
        return deeds.size() - n;
    }

    private int keep(int k) {
        if (k < 0 || k > 2) {
            return BAD;
        }
        if (people.isEmpty()) {
            return STATE;
        }
        kept.put(k, now);
        return now.deeds.size();
    }

    private int on(int k) {
        if (k < 0 || k > 2) {
            return BAD;
        }
        if (!kept.containsKey(k)) {
            return found(1);
        }
        now = kept.get(k);
        return now.deeds.size();
    }

    // ---- WATCHES to come: all rows of them are written down first

    private List<int[]> allPairs() {
        List<int[]> all = new ArrayList<>();
        for (int number = 0; number < 60; number++) {
            if (isWatch(number)) {
                all.add(new int[] {number / 10, number % 10});
            }
        }
        return all;
    }

    private boolean isWatch(int number) {
        return number >= 0 && isPair(number / 10, number % 10) && number / 10 < number % 10;
    }

    private List<List<Integer>> allRows(int n) {
        List<List<Integer>> all = new ArrayList<>();
        all.add(List.of());
        for (int k = 0; k < n; k++) {
            List<List<Integer>> longer = new ArrayList<>();
            for (List<Integer> row : all) {
                for (int[] pair : allPairs()) {
                    List<Integer> one = new ArrayList<>(row);
                    one.add(10 * pair[0] + pair[1]);
                    longer.add(one);
                }
            }
            all = longer;
        }
        return all;
    }

    /** STRENGTHS: now, and behind each WATCH of a row. */
    private List<Integer> strengths(List<Integer> row) {
        List<Integer> strengths = new ArrayList<>();
        Bridge b = now;
        strengths.add(b.strength);
        for (int number : row) {
            b = behindWatch(b, number / 10, number % 10);
            strengths.add(b.strength);
        }
        return strengths;
    }

    private int best(int n, int r) {
        if (n < 0 || n > 3 || !isRow(r)) {
            return BAD;
        }
        if (people.isEmpty()) {
            return STATE;
        }
        int greatest = -1;
        List<Integer> which = null;
        for (List<Integer> row : allRows(n)) {
            int strength = strengths(row).get(n);
            if (strength > greatest) {
                greatest = strength;
                which = row;
            }
        }
        rows.put(r, new ArrayList<>(which));
        return greatest;
    }

    private int watchesRefused(int r) {
        if (!isRow(r)) {
            return BAD;
        }
        if (people.isEmpty()) {
            return STATE;
        }
        if (!rows.containsKey(r)) {
            return found(1);
        }
        if (rows.get(r).size() > 20) {
            return found(5);
        }
        for (int number : rows.get(r)) {
            if (!isWatch(number)) {
                return found(3);
            }
        }
        return 0;
    }

    private int through(int r) {
        int refused = watchesRefused(r);
        if (refused != 0) {
            return refused;
        }
        List<Integer> strengths = strengths(rows.get(r));
        tell(strengths.stream().min(Integer::compare).get());
        return strengths.get(strengths.size() - 1);
    }

    private int when(int r, int v) {
        if (v < 0 || v > 60) {
            return BAD;
        }
        int refused = watchesRefused(r);
        if (refused != 0) {
            return refused;
        }
        List<Integer> strengths = strengths(rows.get(r));
        for (int k = 0; k < strengths.size(); k++) {
            if (strengths.get(k) >= v) {
                return k;
            }
        }
        return NONE;
    }

    private int strengthsRefused(int r) {
        if (!isRow(r)) {
            return BAD;
        }
        if (people.isEmpty()) {
            return STATE;
        }
        if (!rows.containsKey(r)) {
            return found(1);
        }
        if (rows.get(r).isEmpty() || rows.get(r).size() > 3) {
            return found(5);
        }
        for (int v : rows.get(r)) {
            if (v < 0 || v > 60) {
                return found(3);
            }
        }
        return 0;
    }

    private static int who(List<Integer> row) {
        int bits = 0;
        for (int number : row) {
            bits |= 1 << number / 10 | 1 << number % 10;
        }
        return bits;
    }

    private int bear(int r) {
        int refused = strengthsRefused(r);
        if (refused != 0) {
            return refused;
        }
        List<Integer> loads = rows.get(r);
        List<List<Integer>> bearing = new ArrayList<>();
        for (List<Integer> row : allRows(loads.size())) {
            List<Integer> strengths = strengths(row);
            boolean all = true;
            for (int k = 0; k < loads.size(); k++) {
                all &= strengths.get(k + 1) >= loads.get(k);
            }
            if (all) {
                bearing.add(row);
            }
        }
        for (int many = 2; many <= people.size(); many++) {
            for (int bits = 0; bits < 64; bits++) {
                for (List<Integer> row : bearing) {
                    if (Integer.bitCount(bits) == many && (who(row) & ~bits) == 0) {
                        tell(bits);
                        return many;
                    }
                }
            }
        }
        return NONE;
    }

    private List<List<Integer>> rowsThatSagged(int r) {
        List<List<Integer>> so = new ArrayList<>();
        for (List<Integer> row : allRows(rows.get(r).size())) {
            if (strengths(row).subList(1, row.size() + 1).equals(rows.get(r))) {
                so.add(row);
            }
        }
        return so;
    }

    private int sagged(int r) {
        int refused = strengthsRefused(r);
        if (refused != 0) {
            return refused;
        }
        List<List<Integer>> so = rowsThatSagged(r);
        upper = BigInteger.valueOf(so.size());
        lower = BigInteger.ONE;
        return tell(so.isEmpty() ? NONE : so.get(0).get(0));
    }

    private int sure(int r) {
        int refused = strengthsRefused(r);
        if (refused != 0) {
            return refused;
        }
        List<List<Integer>> so = rowsThatSagged(r);
        if (so.isEmpty()) {
            return found(4);
        }
        int surely = 0;
        int never = 0;
        for (int i = 0; i < people.size(); i++) {
            int in = 0;
            for (List<Integer> row : so) {
                in += who(row) >> i & 1;
            }
            surely |= in == so.size() ? 1 << i : 0;
            never |= in == 0 ? 1 << i : 0;
        }
        tell(never);
        return surely;
    }

    // ---- who one is

    private int triplesRefused(int i, int r) {
        if (!isOne(i) || !isRow(r)) {
            return BAD;
        }
        if (!rows.containsKey(r)) {
            return found(1);
        }
        if (rows.get(r).size() % 3 != 0) {
            return found(5);
        }
        int[] most = {30, 11, 15};
        for (int k = 0; k < rows.get(r).size(); k++) {
            if (rows.get(r).get(k) < 0 || rows.get(r).get(k) > most[k % 3]) {
                return found(3);
            }
        }
        return 0;
    }

    private boolean fits(One one, int r) {
        List<Integer> row = rows.get(r);
        for (int k = 0; k < row.size(); k += 3) {
            if (tells(one, row.get(k), row.get(k + 1)) != row.get(k + 2)) {
                return false;
            }
        }
        return true;
    }

    private int lasts(int i, int r) {
        int refused = triplesRefused(i, r);
        if (refused != 0) {
            return refused;
        }
        int bits = 0;
        for (int lasts = 0; lasts <= 9; lasts++) {
            bits += fits(new One(people.get(i).letter, people.get(i).lively, lasts), r) ? 1 << lasts : 0;
        }
        return bits;
    }

    private One as(int i, int kind) {
        return new One(LETTERS.charAt(kind), people.get(i).lively, people.get(i).lasts);
    }

    private int kinds(int i, int r) {
        int refused = triplesRefused(i, r);
        if (refused != 0) {
            return refused;
        }
        int bits = 0;
        for (int kind = 0; kind < 6; kind++) {
            bits += fits(as(i, kind), r) ? 1 << kind : 0;
        }
        return bits;
    }

    private int test(int i, int r) {
        int bits = kinds(i, r);
        if (bits < 0) {
            return bits;
        }
        if (bits == 0) {
            return NONE;
        }
        int best = -1;
        int least = 99;
        for (int hour = 0; hour < 12; hour++) {
            Map<Integer, Integer> parts = new HashMap<>();
            for (int kind = 0; kind < 6; kind++) {
                if ((bits >> kind & 1) == 1) {
                    parts.merge(tells(as(i, kind), now.ups.get(i), hour), 1, Integer::sum);
                }
            }
            int greatest = parts.values().stream().max(Integer::compare).get();
            if (greatest < least) {
                least = greatest;
                best = hour;
            }
        }
        tell(least);
        return best;
    }

    // ---- PAIRS, turns, chances, LOTS

    /** All rows of partners, whether they are PAIRS or not, in rising order. */
    private int pairs(int r) {
        if (!isRow(r)) {
            return BAD;
        }
        if (people.isEmpty()) {
            return STATE;
        }
        int n = people.size();
        int most = -1;
        int[] which = null;
        int all = 1;
        for (int k = 0; k < n; k++) {
            all *= n + 1;
        }
        for (int code = 0; code < all; code++) {
            int[] with = new int[n];
            int left = code;
            for (int k = n - 1; k >= 0; k--) {
                with[k] = left % (n + 1) == 0 ? NONE : left % (n + 1) - 1;
                left /= n + 1;
            }
            int sum = sumOfPairs(with);
            if (sum > most) {
                most = sum;
                which = with;
            }
        }
        makeRow(r, which);
        return most;
    }

    private int sumOfPairs(int[] with) {
        int alone = 0;
        int sum = 0;
        for (int i = 0; i < with.length; i++) {
            if (with[i] == NONE) {
                alone++;
            } else if (with[i] == i || with[with[i]] != i) {
                return -1;
            } else if (with[i] > i) {
                sum += talk(now, i, with[i]);
            }
        }
        return alone == with.length % 2 ? sum : -1;
    }

    private int duel(Bridge b, int turns, boolean much) {
        if (turns == 0) {
            return b.strength;
        }
        List<Integer> outcomes = new ArrayList<>();
        for (int[] pair : allPairs()) {
            outcomes.add(duel(behindWatch(b, pair[0], pair[1]), turns - 1, !much));
        }
        outcomes.sort(null);
        return outcomes.get(much ? outcomes.size() - 1 : 0);
    }

    /** STRENGTHS of the 144 cases of 12 lots each, of which the first p are asleep. */
    private List<Integer> sleepCases(int i, int j, int p) {
        List<Integer> cases = new ArrayList<>();
        for (int a = 0; a < 12; a++) {
            for (int b = 0; b < 12; b++) {
                int told = a < p ? b < p ? 0 : tellsNow(now, j) : b < p ? tellsNow(now, i) : talk(now, i, j);
                cases.add(Math.min(60, now.strength / 2 + told));
            }
        }
        return cases;
    }

    private int share(int part) {
        BigInteger p = BigInteger.valueOf(part);
        BigInteger all = BigInteger.valueOf(144);
        upper = p.divide(p.gcd(all));
        lower = all.divide(p.gcd(all));
        return 1;
    }

    private int odds(int i, int j, int v, int p) {
        if (!isPair(i, j) || v < 0 || v > 60 || p < 0 || p > 12) {
            return BAD;
        }
        int part = 0;
        for (int strength : sleepCases(i, j, p)) {
            part += strength >= v ? 1 : 0;
        }
        return share(part);
    }

    private int mid(int i, int j, int p) {
        if (!isPair(i, j) || p < 0 || p > 12) {
            return BAD;
        }
        int sum = 0;
        for (int strength : sleepCases(i, j, p)) {
            sum += strength;
        }
        return share(sum);
    }

    private int lots(int n, int seed) {
        if (n < 1 || n > 20 || seed < 1 || seed > 2147483646) {
            return BAD;
        }
        if (people.isEmpty()) {
            return STATE;
        }
        if (now.deeds.size() + n > 40) {
            return FULL;
        }
        BigInteger number = BigInteger.valueOf(seed);
        int many = people.size();
        for (int k = 0; k < n; k++) {
            number = number.multiply(BigInteger.valueOf(48271)).mod(BigInteger.valueOf(2147483647));
            int it = number.intValueExact();
            int i = it / 8 % many;
            int j = (i + 1 + it / 64 % (many - 1)) % many;
            act(it % 4 == 0 ? new Deed('l', it / 8 % 30, 0) : new Deed('w', i, j));
        }
        return now.strength;
    }

    // ---- what is told

    private int count(int what) {
        int lovers = 0;
        for (One one : people) {
            lovers += one.letter == 'l' || one.letter == 'w' ? 1 : 0;
        }
        return new int[] {people.size(), now.hours, now.deeds.size(), now.strength, now.coffee, now.crossed, now.fell,
            lovers, rows.size(), texts.size(), kept.size()}[what];
    }

    private long digest() {
        List<Integer> values = new ArrayList<>();
        for (int what = 0; what <= 10; what++) {
            values.add(count(what));
        }
        for (int i = 0; i < people.size(); i++) {
            for (int what = 0; what <= 5; what++) {
                values.add(fact(i, what));
            }
        }
        for (int k = 0; k < 3; k++) {
            values.add(kept.containsKey(k) ? kept.get(k).deeds.size() : -1);
        }
        for (int r = 0; r < 6; r++) {
            values.add(rows.containsKey(r) ? rows.get(r).size() : -1);
            values.addAll(rows.getOrDefault(r, List.of()));
        }
        for (int t = 0; t < 4; t++) {
            values.add(texts.containsKey(t) ? texts.get(t).length : -1);
            for (byte b : texts.getOrDefault(t, new byte[0])) {
                values.add((int) b);
            }
        }
        long h = 17;
        for (int v : values) {
            h = 31 * h + v;
        }
        return h;
    }
}
