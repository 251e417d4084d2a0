import java.math.BigInteger;
import java.util.ArrayList;
import java.util.Arrays;
import java.util.List;
import java.util.regex.Matcher;
import java.util.regex.Pattern;

/**
 * The document's words once more, by other means than the class: big numbers, lists, a regular
 * expression for set-ups, real arrays for tapes and every row of units tried.
 */
public final class SlowModel {
    private static final int NONE = -1, BAD = -2, STATE = -3, FULL = -4, NOT_ANY = -5;
    private static final long NO = Long.MIN_VALUE;
    private static final BigInteger WIDEST = BigInteger.valueOf(1000000000L);

    /** In lowest terms; null stands for none. */
    private record Q(BigInteger up, BigInteger low) {
        static Q of(BigInteger up, BigInteger low) {
            if (low.signum() < 0) {
                return of(up.negate(), low.negate());
            }
            BigInteger g = up.gcd(low);
            return new Q(up.divide(g), low.divide(g));
        }

        static Q of(long up, long low) {
            return of(BigInteger.valueOf(up), BigInteger.valueOf(low));
        }

        boolean wide() {
            return up.abs().compareTo(WIDEST) > 0 || low.compareTo(WIDEST) > 0;
        }

        Q plus(Q o) {
            return of(up.multiply(o.low).add(o.up.multiply(low)), low.multiply(o.low));
        }

        Q minus(Q o) {
            return plus(new Q(o.up.negate(), o.low));
        }

        Q times(Q o) {
            return of(up.multiply(o.up), low.multiply(o.low));
        }

        Q by(long d) {
            return of(up, low.multiply(BigInteger.valueOf(d)));
        }

        int compare(Q o) {
            return up.multiply(o.low).compareTo(o.up.multiply(low));
        }

        BigInteger floor() {
            BigInteger[] parts = up.divideAndRemainder(low);
            return parts[1].signum() < 0 ? parts[0].subtract(BigInteger.ONE) : parts[0];
        }

        BigInteger ceiling() {
            return new Q(up.negate(), low).floor().negate();
        }

        Q turned() {
            return of(low, up);
        }

        long part(int part) {
            return (part == 0 ? up : low).longValueExact();
        }
    }

    private static final Q ZERO = Q.of(0, 1);
    private static final Q UNIT = Q.of(1, 1);

    private static final class R {
        int kind;
        List<Integer> numbers = new ArrayList<>();

        R copy() {
            R r = new R();
            r.kind = kind;
            r.numbers.addAll(numbers);
            return r;
        }
    }

    private static final class All {
        R[] rows = new R[6];
        List<int[]> seen = new ArrayList<>();
        List<int[]> events = new ArrayList<>();
        List<int[]> book = new ArrayList<>();

        All copy() {
            All a = new All();
            for (int i = 0; i < 6; i++) {
                a.rows[i] = rows[i].copy();
            }
            a.seen.addAll(seen);
            a.events.addAll(events);
            a.book.addAll(book);
            return a;
        }

        int numbers() {
            int n = 0;
            for (R r : rows) {
                n += r.numbers.size();
            }
            return n;
        }
    }

    private All all = new All();
    private All image;
    private final StringBuilder text = new StringBuilder();
    private final Object[] tapes = new Object[6];

    public SlowModel() {
        for (int i = 0; i < 6; i++) {
            all.rows[i] = new R();
        }
    }

    private static boolean six(int... vs) {
        for (int v : vs) {
            if (v < 0 || v > 5) {
                return false;
            }
        }
        return true;
    }

    private static Q worthOf(int kind, List<Integer> numbers) {
        Q w = ZERO;
        for (int i = numbers.size() - 1; i >= 0; i--) {
            int a = numbers.get(i);
            if (kind != 3 && a == 0) {
                return null;
            }
            Q bracket;
            switch (kind) {
                case 0 -> w = w.plus(Q.of(1, a));
                case 1 -> {
                    bracket = UNIT.plus(w);
                    w = bracket.wide() ? bracket : bracket.by(a);
                }
                case 2 -> {
                    bracket = UNIT.minus(w);
                    w = bracket.wide() ? bracket : bracket.by(a);
                }
                default -> {
                    bracket = Q.of(a, 1).plus(w);
                    w = bracket.wide() ? bracket : bracket.by(i + 2);
                }
            }
            if (w.wide()) {
                return null;
            }
        }
        return w;
    }

    private Q worthOf(int row) {
        return worthOf(all.rows[row].kind, all.rows[row].numbers);
    }

    private int spreadInto(int row, int kind, Q start) {
        R r = new R();
        r.kind = kind;
        all.rows[row] = r;
        Q u = start;
        while (u.up().signum() != 0) {
            if (r.numbers.size() == 16) {
                return 0;
            }
            int i = r.numbers.size();
            BigInteger a;
            Q next;
            switch (kind) {
                case 0 -> {
                    a = u.turned().ceiling();
                    next = u.minus(Q.of(BigInteger.ONE, a));
                }
                case 1 -> {
                    a = u.turned().ceiling();
                    next = u.times(Q.of(a, BigInteger.ONE)).minus(UNIT);
                }
                case 2 -> {
                    a = u.turned().floor();
                    next = UNIT.minus(u.times(Q.of(a, BigInteger.ONE)));
                }
                default -> {
                    Q more = u.times(Q.of(i + 2, 1));
                    a = more.floor();
                    next = more.minus(Q.of(a, BigInteger.ONE));
                }
            }
            if (a.compareTo(WIDEST) > 0 || next.wide()) {
                return 0;
            }
            r.numbers.add(a.intValueExact());
            u = next;
        }
        return 1;
    }

    private static int flawOf(R r) {
        List<Integer> a = r.numbers;
        if (a.isEmpty()) {
            return 0;
        }
        int last = a.size() - 1;
        for (int i = 0; i <= last; i++) {
            long v = a.get(i);
            boolean amiss = false;
            if (r.kind == 0) {
                amiss = i == 0 && v < 2
                        || i > 0 && v < (long) a.get(i - 1) * (a.get(i - 1) - 1L) + 1;
            } else if (r.kind == 1) {
                amiss = i == 0 && v < 2 || i > 0 && v < a.get(i - 1);
            } else if (r.kind == 2) {
                amiss = i == 0 && v < 1 || i > 0 && v <= a.get(i - 1)
                        || i == last && last > 0 && v == a.get(i - 1) + 1L
                        || i == 0 && last == 0 && v == 1;
            } else {
                amiss = v > i + 1 || i == last && v == 0;
            }
            if (amiss) {
                return i;
            }
        }
        return NOT_ANY;
    }

    public int spread(int row, int kind, int up, int low) {
        if (!six(row) || kind < 0 || kind > 3) return NONE;
        if (up < 1 || up > 999999 || low < 1 || low > 999999 || up >= low) return BAD;
        return spreadInto(row, kind, Q.of(up, low));
    }

    public int begin(int row, int kind) {
        if (!six(row) || kind < 0 || kind > 3) return NONE;
        int had = all.rows[row].numbers.size();
        all.rows[row] = new R();
        all.rows[row].kind = kind;
        return had;
    }

    public int add(int row, int v) {
        if (!six(row)) return NONE;
        if (v < 0 || v > 1000000000) return BAD;
        List<Integer> a = all.rows[row].numbers;
        if (a.size() == 16) return FULL;
        a.add(v);
        return a.size();
    }

    public int cut(int row, int n) {
        if (!six(row)) return NONE;
        List<Integer> a = all.rows[row].numbers;
        if (n < 0 || n > a.size()) return BAD;
        int went = a.size() - n;
        all.rows[row].numbers = new ArrayList<>(a.subList(0, n));
        return went;
    }

    public int copies(int row, int from) {
        if (!six(row, from)) return NONE;
        all.rows[row] = all.rows[from].copy();
        return all.rows[row].numbers.size();
    }

    public int works(int row, int a, int b, int how) {
        if (!six(row, a, b) || how < 0 || how > 2) return NONE;
        Q p = worthOf(a);
        Q q = worthOf(b);
        if (p == null || q == null) return STATE;
        Q u = how == 0 ? p.plus(q) : how == 1 ? p.minus(q) : p.times(q);
        if (u.compare(ZERO) <= 0 || u.compare(UNIT) >= 0 || u.wide()) return STATE;
        return spreadInto(row, all.rows[row].kind, u);
    }

    public int feed(int sign) {
        if (sign < 0 || sign > 127) return BAD;
        if (text.length() == 100) return FULL;
        text.append((char) sign);
        return text.length();
    }

    private static final String N = " [0-9]{1,9}";
    private static final String CLAUSE =
            "(?:spread" + N + N + N + N + "|(?:row|add|cut|copy)" + N + N + ")";
    private static final Pattern SET_UP = Pattern.compile(CLAUSE + "(?:;" + CLAUSE + "){0,11}");

    private static boolean canBegin(String s) {
        Matcher m = SET_UP.matcher(s);
        return m.matches() || m.hitEnd();
    }

    public int read() {
        String s = text.toString();
        text.setLength(0);
        if (!SET_UP.matcher(s).matches()) {
            int fault = 0;
            while (fault < s.length() && canBegin(s.substring(0, fault + 1))) {
                fault++;
            }
            return -10 - fault;
        }
        int done = 0;
        for (String clause : s.split(";")) {
            String[] w = clause.split(" ");
            int[] v = new int[w.length];
            for (int i = 1; i < w.length; i++) {
                v[i] = Integer.parseInt(w[i]);
            }
            int answer = switch (w[0]) {
                case "spread" -> spread(v[1], v[2], v[3], v[4]);
                case "row" -> begin(v[1], v[2]);
                case "add" -> add(v[1], v[2]);
                case "cut" -> cut(v[1], v[2]);
                default -> copies(v[1], v[2]);
            };
            done += answer >= 0 ? 1 : 0;
        }
        return done;
    }

    public int of(int row, int i) {
        if (!six(row) || i < 0) return NONE;
        List<Integer> a = all.rows[row].numbers;
        return i < a.size() ? a.get(i) : NOT_ANY;
    }

    public int told(int row, int what) {
        if (!six(row) || what < 0 || what > 3) return NONE;
        R r = all.rows[row];
        return switch (what) {
            case 0 -> r.kind;
            case 1 -> r.numbers.size();
            case 2 -> flawOf(r);
            default -> worthOf(row) == null ? 0 : 1;
        };
    }

    public long worth(int row, int part) {
        if (!six(row) || part < 0 || part > 1) return NO;
        Q w = worthOf(row);
        return w == null ? NO : w.part(part);
    }

    public int written(int row, int i) {
        if (!six(row) || i < 0) return NONE;
        StringBuilder s = new StringBuilder().append("sepc".charAt(all.rows[row].kind)).append(':');
        String between = "";
        for (int v : all.rows[row].numbers) {
            s.append(between).append(v);
            between = ",";
        }
        return i < s.length() ? s.charAt(i) : NOT_ANY;
    }

    public int greater(int one, int other) {
        if (!six(one, other)) return NONE;
        R p = all.rows[one];
        R q = all.rows[other];
        if (p.kind != q.kind) return STATE;
        for (int i = 0; i < 17; i++) {
            boolean hasP = i < p.numbers.size();
            boolean hasQ = i < q.numbers.size();
            if (!hasP && !hasQ) {
                return 0;
            }
            if (hasP && hasQ) {
                int a = p.numbers.get(i);
                int b = q.numbers.get(i);
                if (a == b) {
                    continue;
                }
                int lesser = a < b ? 1 : 2;
                int larger = 3 - lesser;
                return switch (p.kind) {
                    case 0, 1 -> lesser;
                    case 2 -> i % 2 == 0 ? lesser : larger;
                    default -> larger;
                };
            }
            int longer = hasP ? 1 : 2;
            return p.kind == 2 && i % 2 == 1 ? 3 - longer : longer;
        }
        return 0;
    }

    public int worthier(int one, int other) {
        if (!six(one, other)) return NONE;
        Q p = worthOf(one);
        Q q = worthOf(other);
        if (p == null || q == null) return STATE;
        int c = p.compare(q);
        return c > 0 ? 1 : c < 0 ? 2 : 0;
    }

    private Q beginningOf(int row, int m) {
        return worthOf(all.rows[row].kind, all.rows[row].numbers.subList(0, m));
    }

    public long beginning(int row, int m, int what, int part) {
        if (!six(row) || m < 0 || m > all.rows[row].numbers.size()) return NO;
        if (what < 0 || what > 1 || part < 0 || part > 1) return NO;
        Q b = beginningOf(row, m);
        if (what == 0) {
            return b == null ? NO : b.part(part);
        }
        Q w = worthOf(row);
        if (b == null || w == null) return NO;
        Q s = w.minus(b);
        return s.wide() ? NO : s.part(part);
    }

    private static int[] firstUnits(long up, long low) {
        for (int a = 2; a <= 60; a++) {
            if (low == up * a) return new int[] {a};
        }
        for (int a = 2; a <= 60; a++) {
            for (int b = a + 1; b <= 60; b++) {
                if (low * (a + b) == up * a * b) return new int[] {a, b};
            }
        }
        for (int a = 2; a <= 60; a++) {
            for (int b = a + 1; b <= 60; b++) {
                for (int c = b + 1; c <= 60; c++) {
                    if (low * (a * b + a * c + b * c) == up * a * b * c) return new int[] {a, b, c};
                }
            }
        }
        return null;
    }

    public int units(int up, int low, int what) {
        if (up < 1 || up > 9999 || low < 1 || low > 9999) return BAD;
        if (what < 0 || what > 3) return NONE;
        int[] u = firstUnits(up, low);
        if (u == null) return NOT_ANY;
        if (what == 0) return u.length;
        return what <= u.length ? u[what - 1] : NOT_ANY;
    }

    public int see(int row, int up, int low) {
        if (row == -1) {
            all.seen.clear();
            return 0;
        }
        if (!six(row)) return NONE;
        if (up < 1 || up > 9999 || low < 1 || low > 9999) return BAD;
        if (all.seen.size() == 4) return FULL;
        all.seen.add(new int[] {row, up, low});
        return all.seen.size();
    }

    private boolean allSeenIsSo() {
        for (int[] s : all.seen) {
            Q w = worthOf(s[0]);
            if (w == null || w.compare(Q.of(s[1], s[2])) != 0) {
                return false;
            }
        }
        return true;
    }

    public int fits(int row, int i, int what) {
        if (!six(row) || i < 0 || i >= all.rows[row].numbers.size()) return NONE;
        if (what < 0 || what > 1) return NONE;
        List<Integer> a = all.rows[row].numbers;
        int was = a.get(i);
        int many = 0;
        int least = NOT_ANY;
        for (int v = 0; v < 100; v++) {
            a.set(i, v);
            if (allSeenIsSo()) {
                many++;
                least = least == NOT_ANY ? v : least;
            }
        }
        a.set(i, was);
        return what == 0 ? many : least;
    }

    public long odds(int one, int other, int part) {
        if (!six(one, other) || part < 0 || part > 1) return NO;
        int n = all.rows[one].numbers.size();
        int m = all.rows[other].numbers.size();
        if (n == 0 || m == 0) return NO;
        Q likely = ZERO;
        for (int k = 1; k <= n; k++) {
            for (int l = 1; l <= m; l++) {
                Q p = beginningOf(one, k);
                Q q = beginningOf(other, l);
                if (p != null && q != null && p.compare(q) > 0) {
                    likely = likely.plus(Q.of(1, (long) n * m));
                }
            }
        }
        return likely.part(part);
    }

    public long mean(int part) {
        if (part < 0 || part > 1) return NO;
        Q sum = ZERO;
        int many = 0;
        for (int r = 0; r < 6; r++) {
            Q w = worthOf(r);
            if (w != null) {
                sum = sum.plus(w);
                many++;
                if (sum.wide()) return NO;
            }
        }
        if (many == 0) return NO;
        Q mean = sum.by(many);
        return mean.wide() ? NO : mean.part(part);
    }

    public int event(int what, int n) {
        if (what == -1) {
            all.events.clear();
            return 0;
        }
        if (what < 0 || what > 2 || !six(n)) return NONE;
        if (all.events.size() == 8) return FULL;
        all.events.add(new int[] {what, n});
        return all.events.size();
    }

    public int after(int row, int what) {
        if (!six(row) || what < 0 || what > 2) return NONE;
        All later = all.copy();
        for (int[] e : all.events) {
            R r = later.rows[e[1]];
            if (e[0] == 0) {
                if (!r.numbers.isEmpty()) {
                    r.numbers.remove(r.numbers.size() - 1);
                }
            } else if (e[0] == 1) {
                r.numbers.replaceAll(v -> v == 1000000000 ? v : v + 1);
            } else {
                r.kind = r.kind == 3 ? 0 : r.kind + 1;
            }
        }
        R r = later.rows[row];
        return what == 0 ? r.numbers.size() : what == 1 ? flawOf(r) : r.kind;
    }

    private Integer atSpot(int spot) {
        for (int r = 0; r < 6; r++) {
            for (int i = 0; i < all.rows[r].numbers.size(); i++) {
                if (spot == 100 * r + i) {
                    return all.rows[r].numbers.get(i);
                }
            }
        }
        return null;
    }

    public int book(int spot, int v) {
        if (spot == -1) {
            all.book.clear();
            return 0;
        }
        if (atSpot(spot) == null) return NONE;
        if (v < 0 || v > 1000000000) return BAD;
        if (all.book.size() == 8) return FULL;
        all.book.add(new int[] {spot, v});
        return all.book.size();
    }

    public int looked() {
        for (int b = 0; b < all.book.size(); b++) {
            Integer v = atSpot(all.book.get(b)[0]);
            if (v == null || v != all.book.get(b)[1]) {
                return b;
            }
        }
        return NOT_ANY;
    }

    /** By the host's own refusals, which the document's numbers stand for. */
    public int judge(int row, int tape, int i) {
        if (!six(row, tape)) return NONE;
        int k = 0;
        try {
            int[] by = (int[]) tapes[tape];
            for (; k < all.rows[row].numbers.size(); k++) {
                if (by[i + k] != all.rows[row].numbers.get(k)) {
                    return k;
                }
            }
            return NOT_ANY;
        } catch (ClassCastException e) {
            return -12;
        } catch (NullPointerException | ArrayIndexOutOfBoundsException e) {
            return 100 + k;
        }
    }

    public int image() {
        image = all.copy();
        return all.numbers();
    }

    public int undo() {
        if (image == null) return STATE;
        all = image.copy();
        return all.numbers();
    }

    public int count(int what) {
        return switch (what) {
            case 0 -> all.seen.size();
            case 1 -> all.events.size();
            case 2 -> all.book.size();
            case 3 -> text.length();
            default -> BAD;
        };
    }

    public int tape(int tape, int sort, int n) {
        if (!six(tape)) return NONE;
        if (sort < -1 || sort > 4 || sort >= 0 && n > 60) return BAD;
        if (sort >= 0 && n < 0) return -14;
        tapes[tape] = switch (sort) {
            case 0 -> new byte[n];
            case 1 -> new short[n];
            case 2 -> new int[n];
            case 3 -> new long[n];
            case 4 -> new boolean[n];
            default -> null;
        };
        return 1;
    }

    public int item(int tape, int i, long v) {
        if (!six(tape)) return NONE;
        Object t = tapes[tape];
        if (t == null) return -11;
        if (i < 0 || i >= java.lang.reflect.Array.getLength(t)) return -13;
        if (t instanceof byte[] a) {
            a[i] = (byte) v;
        } else if (t instanceof short[] a) {
            a[i] = (short) v;
        } else if (t instanceof int[] a) {
            a[i] = (int) v;
        } else if (t instanceof long[] a) {
            a[i] = v;
        } else if (t instanceof boolean[] a) {
            a[i] = v != 0;
        }
        return 1;
    }

    public long peek(int tape, int i) {
        if (!six(tape) || tapes[tape] == null) return NO;
        Object t = tapes[tape];
        if (i < 0 || i >= java.lang.reflect.Array.getLength(t)) return NO;
        return t instanceof boolean[] a ? (a[i] ? 1 : 0) : java.lang.reflect.Array.getLong(t, i);
    }

    public int shift(int tape, int i, int other, int j, int n) {
        if (!six(tape, other)) return NONE;
        try {
            System.arraycopy(tapes[tape], i, tapes[other], j, n);
            return n;
        } catch (NullPointerException e) {
            return -11;
        } catch (ArrayStoreException e) {
            return -12;
        } catch (ArrayIndexOutOfBoundsException e) {
            return -13;
        }
    }

    /** For the runs: what a row holds now. */
    List<Integer> numbersOf(int row) {
        return new ArrayList<>(all.rows[row].numbers);
    }

    @Override
    public String toString() {
        StringBuilder s = new StringBuilder();
        for (R r : all.rows) {
            s.append(r.kind).append(r.numbers).append(' ');
        }
        for (Object t : tapes) {
            s.append(t == null ? "-" : Arrays.deepToString(new Object[] {t})).append(' ');
        }
        return s.toString();
    }
}
