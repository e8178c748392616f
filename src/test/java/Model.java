import java.math.BigInteger;
import java.util.ArrayDeque;
import java.util.ArrayList;
import java.util.Arrays;
import java.util.Deque;
import java.util.List;
import java.util.regex.Matcher;
import java.util.regex.Pattern;

/**
 * The document once more, written apart from the program and with the whole library:
 * slow, and never two ways of saying the same. ModelTest lets both answer the same calls.
 */
final class Model {
    private static final int BAD = -1, NO = -2, FULL = -3, NONE = -4;
    private static final String OPENING =
        "s10;w3,2;w5,4;w6,1;w9,6;k2;t5;m0,9,5;m1,6,3;m2,8,0;m3,4,2;m0,1,4;f20;";
    private static final Pattern ITEM = Pattern.compile("([swktmf])(\\d{1,2}(?:,\\d{1,2})*);");

    /** All as it stands, copied whole whenever something is tried. */
    private static final class Palace {
        int steps = 10, funds = 20, year = 0;
        int[] wax = new int[16];
        boolean[] knob = new boolean[16], turn = new boolean[16];
        List<int[]> ministers = new ArrayList<>(); // kind, step, grip, reign

        Palace copy() {
            Palace p = new Palace();
            p.steps = steps;
            p.funds = funds;
            p.year = year;
            p.wax = wax.clone();
            p.knob = knob.clone();
            p.turn = turn.clone();
            for (int[] m : ministers) {
                p.ministers.add(m.clone());
            }
            return p;
        }

        int governor() {
            int best = 0;
            for (int m = ministers.size() - 1; m >= 0; m--) {
                if (ministers.get(m)[1] >= ministers.get(best)[1]) {
                    best = m;
                }
            }
            return best;
        }

        int over(int[] m) {
            boolean atTop = m[1] == steps - 1;
            int grip = m[0] == 3 && atTop ? m[2] + 3 : m[2];
            return wax[m[1]] - grip;
        }

        /** Lets a YEAR go by: as bits, who slipped. */
        int year() {
            int slipped = 0;
            for (int i = 0; i < ministers.size(); i++) {
                int[] m = ministers.get(i);
                int speed = over(m);
                if (speed <= 0) {
                    m[1] = Math.min(steps - 1, m[1] + 1);
                    continue;
                }
                slipped |= 1 << i;
                while (speed > 0 && m[1] != 0) {
                    if (wax[m[1]] > 0) {
                        wax[m[1]]--;
                    }
                    m[1]--;
                    if (knob[m[1]]) {
                        break;
                    }
                    if (turn[m[1]] && m[0] == 2) {
                        break;
                    }
                    speed += wax[m[1]];
                    speed -= m[0] == 1 ? 4 : 2;
                }
            }
            ministers.get(governor())[3]++;
            funds += 3;
            if (funds > 99) {
                funds = 99;
            }
            year++;
            return slipped;
        }

        Palace behind(int n) {
            Palace p = copy();
            for (int i = 0; i < n; i++) {
                p.year();
            }
            return p;
        }

        Palace waxed(int x, int wax) {
            Palace p = copy();
            p.wax[x] = wax;
            return p;
        }
    }

    private String text = "";
    private Palace now;
    private Deque<Palace> undone = new ArrayDeque<>();
    private Deque<Palace> kept = new ArrayDeque<>();
    private List<int[]> sights = new ArrayList<>();
    private Palace read;

    Model() {
        text = OPENING;
        lay();
        text = "";
    }

    int call(String name, int[] a) {
        switch (name) {
            case "write": return write(a[0]);
            case "wipe": return wipe();
            case "fault": return fault();
            case "lay": return lay();
            case "minister": return minister(a[0], a[1]);
            case "step": return step(a[0], a[1]);
            case "pass": return pass(a[0]);
            case "wax": return act(a[0], 1, 1);
            case "sand": return act(a[0], -2, 2);
            case "help": return help(a[0]);
            case "undo": return undo();
            case "governs": return now.governor();
            case "behind": return behind(a[0], a[1], a[2]);
            case "slide": return isMinister(a[0]) ? now.behind(1).ministers.get(a[0])[1] : BAD;
            case "top": return top(a[0]);
            case "topple": return topple(a[0]);
            case "plot": return plot(a[0], a[1], a[2]);
            case "hold": return hold(a[0], a[1]);
            case "cabinet": return cabinet(a[0]);
            case "seen": return seen(a[0], a[1]);
            case "forget": return forget();
            case "waxes": return waxes(a[0]);
            case "grips": return grips(a[0]);
            case "likely": return likely(a[0], a[1], a[2], a[3]);
            case "century": return century(a[0], a[1], a[2]);
            case "keep": return keep();
            case "back": return back();
            case "count": return count(a[0]);
            default: throw new IllegalArgumentException(name);
        }
    }

    private boolean isMinister(int m) {
        return m >= 0 && m < now.ministers.size();
    }

    private boolean isStep(int x) {
        return x >= 0 && x < now.steps;
    }

    private int write(int letter) {
        if (letter < 32 || letter > 126) {
            return BAD;
        }
        if (text.length() == 200) {
            return FULL;
        }
        text += (char) letter;
        return text.length();
    }

    private int wipe() {
        int length = text.length();
        text = "";
        return length;
    }

    private int fault() {
        read = new Palace();
        Matcher matcher = ITEM.matcher(text);
        String before = "";
        int at = 0;
        while (at < text.length()) {
            matcher.region(at, text.length());
            if (!matcher.lookingAt()) {
                return at;
            }
            String kind = matcher.group(1);
            int[] n = Arrays.stream(matcher.group(2).split(",")).mapToInt(Integer::parseInt).toArray();
            if (!readItem(kind, n, before)) {
                return at;
            }
            before += kind;
            at = matcher.end();
        }
        return NONE;
    }

    private boolean readItem(String kind, int[] n, String before) {
        int wanted = kind.equals("m") ? 3 : kind.equals("w") ? 2 : 1;
        if (n.length != wanted) {
            return false;
        }
        switch (kind) {
            case "s":
                read.steps = n[0];
                return n[0] >= 3 && n[0] <= 16 && before.matches("s*");
            case "w":
                if (n[0] >= read.steps || n[1] > 9) {
                    return false;
                }
                read.wax[n[0]] = n[1];
                return true;
            case "k":
                if (n[0] >= read.steps) {
                    return false;
                }
                read.knob[n[0]] = true;
                return true;
            case "t":
                if (n[0] >= read.steps) {
                    return false;
                }
                read.turn[n[0]] = true;
                return true;
            case "m":
                read.ministers.add(new int[] {n[0], n[1], n[2], 0});
                return n[0] <= 3 && n[1] < read.steps && n[2] <= 9 && read.ministers.size() <= 7;
            default:
                read.funds = n[0];
                return true;
        }
    }

    private int lay() {
        if (fault() != NONE || read.ministers.isEmpty()) {
            return NO;
        }
        now = read;
        undone.clear();
        kept.clear();
        sights.clear();
        return now.ministers.size();
    }

    private int minister(int m, int what) {
        if (!isMinister(m) || what < 0 || what > 4) {
            return BAD;
        }
        if (what == 4) {
            return now.over(now.ministers.get(m)) > 0 ? 1 : 0;
        }
        return now.ministers.get(m)[what];
    }

    private int step(int x, int what) {
        if (!isStep(x) || what < 0 || what > 3) {
            return BAD;
        }
        int on = (int) now.ministers.stream().filter(m -> m[1] == x).count();
        return new int[] {now.wax[x], now.knob[x] ? 1 : 0, now.turn[x] ? 1 : 0, on}[what];
    }

    private void remember() {
        undone.push(now.copy());
        if (undone.size() > 8) {
            undone.removeLast();
        }
    }

    private int pass(int n) {
        if (n < 1 || n > 40) {
            return BAD;
        }
        if (now.year + n > 999) {
            return NO;
        }
        remember();
        now = now.behind(n);
        return now.year;
    }

    private int act(int x, int more, int cost) {
        if (!isStep(x)) {
            return BAD;
        }
        if (now.wax[x] == (more > 0 ? 9 : 0) || now.funds < cost) {
            return NO;
        }
        remember();
        now.funds -= cost;
        now.wax[x] = Math.max(0, now.wax[x] + more);
        return now.wax[x];
    }

    private int help(int m) {
        if (!isMinister(m)) {
            return BAD;
        }
        int from = now.ministers.get(m)[1];
        if (from == 0) {
            return NO;
        }
        remember();
        now.ministers.get(m)[1] = 0;
        return from;
    }

    private int undo() {
        if (undone.isEmpty()) {
            return NO;
        }
        now = undone.pop();
        return undone.size();
    }

    private int behind(int n, int m, int what) {
        if (n < 0 || n > 40 || !isMinister(m) || what < 0 || what > 2) {
            return BAD;
        }
        Palace then = now.behind(n);
        return new int[] {then.ministers.get(m)[1], then.governor(), then.ministers.get(m)[3]}[what];
    }

    private int top(int m) {
        if (!isMinister(m)) {
            return BAD;
        }
        for (int n = 0; n <= 40; n++) {
            if (now.behind(n).ministers.get(m)[1] == now.steps - 1) {
                return n;
            }
        }
        return NONE;
    }

    private int topple(int m) {
        if (!isMinister(m)) {
            return BAD;
        }
        int x = now.ministers.get(m)[1];
        for (int wax = now.wax[x]; wax <= 9; wax++) {
            if ((now.waxed(x, wax).year() >> m & 1) == 1) {
                return wax - now.wax[x];
            }
        }
        return NONE;
    }

    private int plot(int m, int n, int what) {
        if (!isMinister(m) || n < 1 || n > 9 || what < 0 || what > 1) {
            return BAD;
        }
        int[] best = null;
        for (int x = 0; x < now.steps; x++) {
            for (int wax = now.wax[x]; wax <= 9; wax++) {
                int more = wax - now.wax[x];
                if (now.waxed(x, wax).behind(n).governor() == m && (best == null || more < best[0])) {
                    best = new int[] {more, x};
                }
            }
        }
        return answer(best, what);
    }

    private static int answer(int[] best, int what) {
        if (best == null || what == 1 && best[0] == 0) {
            return NONE;
        }
        return best[what];
    }

    private int hold(int n, int what) {
        if (n < 1 || n > 9 || what < 0 || what > 1) {
            return BAD;
        }
        int[] best = null;
        for (int x = 0; x < now.steps; x++) {
            for (int often = 0; often <= 5; often++) {
                Palace p = now.waxed(x, Math.max(0, now.wax[x] - 2 * often));
                boolean holds = true;
                for (int year = 1; year <= n; year++) {
                    holds &= p.behind(year).governor() == now.governor();
                }
                if (holds && (best == null || often < best[0])) {
                    best = new int[] {often, x};
                }
            }
        }
        return answer(best, what);
    }

    private int cabinet(int what) {
        if (what < 0 || what > 1) {
            return BAD;
        }
        List<Integer> sets = new ArrayList<>();
        int all = 0;
        for (int[] m : now.ministers) {
            all += m[1] + 1;
        }
        for (int set = 0; set < 1 << now.ministers.size(); set++) {
            int together = 0;
            for (int m = 0; m < now.ministers.size(); m++) {
                together += (set & 1 << m) != 0 ? now.ministers.get(m)[1] + 1 : 0;
            }
            if (together > all - together) {
                sets.add(Integer.bitCount(set) << 8 | set);
            }
        }
        int best = sets.stream().min(Integer::compare).orElseThrow();
        return what == 0 ? best >> 8 : best & 255;
    }

    private int seen(int m, int x) {
        if (!isMinister(m) || !isStep(x)) {
            return BAD;
        }
        if (sights.size() == 6) {
            return FULL;
        }
        sights.add(new int[] {m, x});
        return sights.size();
    }

    private int forget() {
        int size = sights.size();
        sights.clear();
        return size;
    }

    private boolean allSeen(Palace p) {
        Palace then = p.behind(1);
        return sights.stream().allMatch(s -> then.ministers.get(s[0])[1] == s[1]);
    }

    private int waxes(int x) {
        if (!isStep(x)) {
            return BAD;
        }
        int bits = 0;
        for (int wax = 0; wax <= 9; wax++) {
            bits += allSeen(now.waxed(x, wax)) ? 1 << wax : 0;
        }
        return bits;
    }

    private int grips(int m) {
        if (!isMinister(m)) {
            return BAD;
        }
        int bits = 0;
        for (int grip = 0; grip <= 9; grip++) {
            Palace p = now.copy();
            p.ministers.get(m)[2] = grip;
            bits += allSeen(p) ? 1 << grip : 0;
        }
        return bits;
    }

    private int likely(int m, int n, int x, int part) {
        if (!isMinister(m) || n < 0 || n > 6 || x < 0 || x > 10 || part < 0 || part > 1) {
            return BAD;
        }
        BigInteger above = BigInteger.valueOf(chances(now.copy(), m, n, x));
        BigInteger below = BigInteger.TEN.pow(n);
        BigInteger common = above.gcd(below);
        return (part == 0 ? above : below).divide(common).intValueExact();
    }

    private static long chances(Palace p, int m, int n, int x) {
        if (n == 0) {
            return p.governor() == m ? 1 : 0;
        }
        int at = p.ministers.get(p.governor())[1];
        Palace waxed = p.waxed(at, Math.min(9, p.wax[at] + 2));
        return x * chances(waxed.behind(1), m, n - 1, x) + (10 - x) * chances(p.behind(1), m, n - 1, x);
    }

    private int century(int z, int n, int what) {
        if (z < 0 || z > 9999 || n < 1 || n > 60 || what < 0 || what > 1) {
            return BAD;
        }
        Palace p = now.copy();
        List<Integer> governors = new ArrayList<>(List.of(p.governor()));
        for (int year = 0; year < n; year++) {
            BigInteger x = BigInteger.valueOf(7919).multiply(BigInteger.valueOf(z))
                .add(BigInteger.valueOf(6151).multiply(BigInteger.valueOf(year))).add(BigInteger.ONE);
            int draw = x.pow(2).mod(BigInteger.valueOf(65521)).intValueExact() / 2;
            if ((draw / 16) % 2 == 0) {
                p.wax[draw % p.steps] = Math.min(9, p.wax[draw % p.steps] + 1);
            }
            if ((draw / 512) % 3 == 0) {
                int at = (draw / 32) % p.steps;
                p.wax[at] = Math.max(0, p.wax[at] - 2);
            }
            p.year();
            governors.add(p.governor());
        }
        int changes = 0;
        for (int year = 1; year <= n; year++) {
            changes += governors.get(year).equals(governors.get(year - 1)) ? 0 : 1;
        }
        return what == 0 ? governors.get(n) : changes;
    }

    private int keep() {
        if (kept.size() == 2) {
            return FULL;
        }
        kept.push(now.copy());
        return kept.size();
    }

    private int back() {
        if (kept.isEmpty()) {
            return NO;
        }
        now = kept.pop();
        undone.clear();
        return kept.size();
    }

    private int count(int what) {
        if (what < 0 || what > 8) {
            return BAD;
        }
        return new int[] {now.ministers.size(), now.steps, now.year, now.funds, Arrays.stream(now.wax).sum(),
            sights.size(), undone.size(), kept.size(), text.length()}[what];
    }
}
