import java.util.ArrayDeque;
import java.util.ArrayList;
import java.util.Arrays;
import java.util.Deque;
import java.util.List;

/**
 * The document written a second time, as plainly as can be: every row of barges and every choice of couples is gone
 * through one by one, and the text is cut into tokens first. ModelTest holds the class against it.
 */
final class Model {
    static final int NONE = -1, UNKNOWN = -1000000001, OUTSIDE = -1000000002, NOT = -1000000003, FULL = -1000000004;

    /** All of section 2. */
    private static final class Scene {
        int minutes;
        int[] grievance = {};
        int[] place = {};
        int[] theme = {};
        boolean[] reconciled = {};
        int[] fate = {};
        int[] lies = {};
        int[] when = {};

        Scene copy() {
            Scene s = new Scene();
            s.minutes = minutes;
            s.grievance = grievance.clone();
            s.place = place.clone();
            s.theme = theme.clone();
            s.reconciled = reconciled.clone();
            s.fate = fate.clone();
            s.lies = lies.clone();
            s.when = when.clone();
            return s;
        }
    }

    private static final class Fault extends RuntimeException {
        private static final long serialVersionUID = 1L;
        final int kind;
        final int where;

        Fault(int kind, int where) {
            this.kind = kind;
            this.where = where;
        }
    }

    /** A token of the text: a sign, a number (its figures in digits), or the end (sign 0, no digits). */
    private static final class Token {
        char sign;
        boolean end;
        String digits = "";
        int where;
    }

    private static final class Told {
        List<Integer> needs = new ArrayList<>();
        int themes = 1;
        boolean themesTold;
        List<Integer> grievances = new ArrayList<>();
        List<int[]> forces = new ArrayList<>();
        List<int[]> barges = new ArrayList<>();
        int snow;
        boolean snowTold;
    }

    private final StringBuilder text = new StringBuilder();
    private int faultAt = NONE;
    private Told told = new Told();
    private Scene scene = new Scene();
    private final Deque<Scene> past = new ArrayDeque<>();
    private final Scene[] images = new Scene[2];
    private final long[] imageSeeds = new long[2];
    private final List<int[]> book = new ArrayList<>();
    private long seed;

    private List<Token> tokens;
    private int next;

    int feed(int letter) {
        if (letter < 0 || letter > 255) return OUTSIDE;
        if (text.length() == 240) return FULL;
        text.append((char) letter);
        return text.length();
    }

    int town() {
        String t = text.toString();
        text.setLength(0);
        try {
            told = parse(t);
        } catch (Fault f) {
            faultAt = f.where;
            return -10 - f.kind;
        }
        faultAt = NONE;
        scene = new Scene();
        int couples = told.grievances.size();
        int barges = told.barges.size();
        scene.grievance = told.grievances.stream().mapToInt(g -> g).toArray();
        scene.place = new int[couples];
        Arrays.fill(scene.place, NONE);
        scene.theme = new int[couples];
        scene.reconciled = new boolean[couples];
        scene.fate = new int[barges];
        scene.lies = new int[barges];
        Arrays.fill(scene.lies, NONE);
        scene.when = new int[barges];
        Arrays.fill(scene.when, NONE);
        past.clear();
        images[0] = null;
        images[1] = null;
        book.clear();
        return told.needs.size();
    }

    private static List<Token> cut(String t) {
        List<Token> all = new ArrayList<>();
        for (int i = 0; i < t.length(); ) {
            if (t.charAt(i) == ' ') {
                i++;
                continue;
            }
            Token token = new Token();
            token.where = i;
            int j = i;
            while (j < t.length() && "0123456789".indexOf(t.charAt(j)) >= 0) j++;
            if (j > i) {
                token.digits = t.substring(i, j);
                i = j;
            } else {
                token.sign = t.charAt(i);
                i++;
            }
            all.add(token);
        }
        Token end = new Token();
        end.end = true;
        end.where = t.length();
        all.add(end);
        return all;
    }

    private Told parse(String t) {
        tokens = cut(t);
        next = 0;
        Told into = new Told();
        boolean first = true;
        while (!tokens.get(next).end) {
            Token word = tokens.get(next++);
            if (!word.digits.isEmpty() || "btcvs".indexOf(word.sign) < 0) throw new Fault(1, word.where);
            if (first && word.sign != 'b') throw new Fault(1, word.where);
            if (!first && word.sign == 'b') throw new Fault(3, word.where);
            first = false;
            if (word.sign == 'b') {
                into.needs.add(number(1, 60));
                while (into.needs.size() < 6 && tokens.get(next).sign == ',') {
                    next++;
                    into.needs.add(number(1, 60));
                }
            } else if (word.sign == 't') {
                if (into.themesTold || !into.grievances.isEmpty()) throw new Fault(3, word.where);
                into.themes = number(1, 5);
                into.themesTold = true;
            } else if (word.sign == 'c') {
                if (into.grievances.size() == 6) throw new Fault(3, word.where);
                into.grievances.add(number(0, 99));
                int[] f = new int[into.themes];
                for (int i = 0; i < f.length; i++) {
                    if (i > 0) sign(',');
                    f[i] = number(0, 9);
                }
                into.forces.add(f);
            } else if (word.sign == 'v') {
                if (into.barges.size() == 7) throw new Fault(3, word.where);
                int m = number(0, into.needs.size() - 1);
                into.barges.add(new int[] {m, number(1, 300)});
            } else {
                if (into.snowTold) throw new Fault(3, word.where);
                into.snow = number(0, 1);
                into.snowTold = true;
            }
            sign(';');
        }
        return into;
    }

    private int number(int low, int high) {
        Token n = tokens.get(next);
        if (n.digits.isEmpty()) throw new Fault(1, n.where);
        if (n.digits.length() > 3) throw new Fault(2, n.where);
        int value = Integer.parseInt(n.digits);
        if (value < low || value > high) throw new Fault(2, n.where);
        next++;
        return value;
    }

    private void sign(char sign) {
        Token s = tokens.get(next);
        if (s.end || s.sign != sign) throw new Fault(1, s.where);
        next++;
    }

    int fault() {
        return faultAt;
    }

    private int bargesOf(int fate) {
        int set = 0;
        for (int v = 0; v < scene.fate.length; v++) if (scene.fate[v] == fate) set += 1 << v;
        return set;
    }

    int told(int what) {
        int who = 0;
        for (int c = 0; c < couples(); c++) if (scene.reconciled[c]) who += 1 << c;
        int[] all = {told.needs.size(), told.themes, couples(), told.barges.size(), told.snow, text.length(),
            scene.minutes, who, bargesOf(1), bargesOf(2), bargesOf(3), Arrays.stream(scene.grievance).sum(),
            book.size(), past.size()};
        return what < 0 || what >= all.length ? OUTSIDE : all[what];
    }

    private int couples() {
        return told.grievances.size();
    }

    private boolean noBridge(int b) {
        return b < 0 || b >= told.needs.size();
    }

    private boolean noCouple(int c) {
        return c < 0 || c >= couples();
    }

    private boolean noTheme(int t) {
        return t < 0 || t >= told.themes;
    }

    private boolean noBarge(int v) {
        return v < 0 || v >= told.barges.size();
    }

    private static int coupleAt(Scene s, int b) {
        for (int c = 0; c < s.place.length; c++) if (s.place[c] == b) return c;
        return NONE;
    }

    int bridge(int b, int what) {
        if (noBridge(b)) return UNKNOWN;
        if (what < 0 || what > 1) return OUTSIDE;
        return what == 0 ? told.needs.get(b) : coupleAt(scene, b);
    }

    int couple(int c, int what) {
        if (noCouple(c)) return UNKNOWN;
        if (what < 0 || what > 4) return OUTSIDE;
        return new int[] {scene.grievance[c], told.grievances.get(c), scene.place[c], scene.theme[c],
            scene.reconciled[c] ? 1 : 0}[what];
    }

    int force(int c, int t) {
        return noCouple(c) || noTheme(t) ? UNKNOWN : told.forces.get(c)[t];
    }

    int barge(int v, int what) {
        if (noBarge(v)) return UNKNOWN;
        if (what < 0 || what > 4) return OUTSIDE;
        return new int[] {told.barges.get(v)[0], told.barges.get(v)[1], scene.fate[v], scene.lies[v],
            scene.when[v]}[what];
    }

    private void remember() {
        past.addLast(scene.copy());
        if (past.size() > 20) past.removeFirst();
    }

    int send(int c, int b, int t) {
        if (noCouple(c) || noBridge(b) || noTheme(t)) return UNKNOWN;
        int there = coupleAt(scene, b);
        if (scene.reconciled[c] || there != NONE && there != c) return NOT;
        remember();
        int was = scene.place[c];
        scene.place[c] = b;
        scene.theme[c] = t;
        return was;
    }

    int home(int c) {
        if (noCouple(c)) return UNKNOWN;
        if (scene.place[c] == NONE) return NOT;
        remember();
        int was = scene.place[c];
        scene.place[c] = NONE;
        return was;
    }

    private int stamp(int grievance, int force) {
        int s = force + grievance / 10;
        if (told.snow == 1) s /= 2;
        return s > grievance ? grievance : s;
    }

    /** Minutes, cost, 1 it opened, 1 it is reconciled. */
    private int[] quarrel(int grievance, int force, int need) {
        int minutes = 0;
        int sum = 0;
        while (true) {
            int s = stamp(grievance - sum, force);
            if (s == 0) return new int[] {minutes, sum, 0, 0};
            minutes++;
            sum += s;
            boolean empty = sum == grievance;
            if (sum >= need) return new int[] {minutes, sum, 1, empty ? 1 : 0};
            if (empty) return new int[] {minutes, sum, 0, 1};
        }
    }

    private void passIn(Scene s, int v) {
        int[] barge = told.barges.get(v);
        for (int b = 0; b <= barge[0]; b++) {
            int c = coupleAt(s, b);
            int[] q = {0, 0, 0, 0};
            if (c != NONE) {
                q = quarrel(s.grievance[c], told.forces.get(c)[s.theme[c]], told.needs.get(b));
                s.minutes += q[0];
                s.grievance[c] -= q[1];
                if (q[3] == 1) {
                    s.reconciled[c] = true;
                    s.place[c] = NONE;
                }
            }
            if (q[2] == 0) {
                s.fate[v] = 3;
                s.lies[v] = b;
                return;
            }
        }
        s.fate[v] = s.minutes <= barge[1] ? 1 : 2;
        s.when[v] = s.minutes;
    }

    int pass(int v) {
        if (noBarge(v)) return UNKNOWN;
        if (scene.fate[v] != 0) return NOT;
        if (scene.minutes > 90000) return FULL;
        remember();
        passIn(scene, v);
        return scene.minutes;
    }

    int grieve(int c, int v) {
        if (noCouple(c)) return UNKNOWN;
        if (v < 1 || v > 99) return OUTSIDE;
        if (scene.reconciled[c]) return NOT;
        remember();
        scene.grievance[c] = Math.min(99, scene.grievance[c] + v);
        return scene.grievance[c];
    }

    private int draw(int n) {
        seed = (seed * 1103515245L + 12345L) % (1L << 31);
        return (int) (seed / 65536 % n);
    }

    int drift(int n) {
        if (n < 1 || n > 99) return OUTSIDE;
        if (couples() == 0) return NOT;
        if (scene.minutes > 90000) return FULL;
        remember();
        for (int i = 0; i < n; i++) {
            int c = draw(couples());
            int more = draw(10);
            if (!scene.reconciled[c]) scene.grievance[c] = Math.min(99, scene.grievance[c] + more);
            scene.minutes++;
        }
        return scene.minutes;
    }

    int undo() {
        if (past.isEmpty()) return NOT;
        scene = past.removeLast();
        return past.size();
    }

    int could(int c, int b, int t, int what) {
        if (noCouple(c) || noBridge(b) || noTheme(t)) return UNKNOWN;
        if (what < 0 || what > 1) return OUTSIDE;
        int[] q = quarrel(scene.grievance[c], told.forces.get(c)[t], told.needs.get(b));
        return scene.reconciled[c] || q[2] == 0 ? NONE : q[what];
    }

    int bestTheme(int c, int b) {
        if (noCouple(c) || noBridge(b)) return UNKNOWN;
        int best = NONE;
        long least = Long.MAX_VALUE;
        for (int t = 0; t < told.themes; t++) {
            if (could(c, b, t, 0) == NONE) continue;
            long worth = could(c, b, t, 0) * 1000L + could(c, b, t, 1);
            if (worth < least) {
                least = worth;
                best = t;
            }
        }
        return best;
    }

    private int costOn(int c, int b) {
        int t = bestTheme(c, b);
        return t == NONE ? NONE : could(c, b, t, 1);
    }

    private int[] bestPairs;
    private int bestPairsCost;

    private void pair(int[] taken, int depth, int sum) {
        if (depth == taken.length) {
            if (bestPairs == null || sum < bestPairsCost) {
                bestPairs = taken.clone();
                bestPairsCost = sum;
            }
            return;
        }
        for (int c = 0; c < couples(); c++) {
            boolean free = costOn(c, depth) != NONE;
            for (int d = 0; d < depth; d++) free &= taken[d] != c;
            if (!free) continue;
            taken[depth] = c;
            pair(taken, depth + 1, sum + costOn(c, depth));
        }
    }

    int who(int m, int b) {
        if (noBridge(m) || b != NONE && (b < 0 || b > m)) return UNKNOWN;
        bestPairs = null;
        pair(new int[m + 1], 0, 0);
        if (bestPairs == null) return NONE;
        return b == NONE ? bestPairsCost : bestPairs[b];
    }

    private List<Integer> bestRow;
    private int bestInTime;

    private void line(Scene s, List<Integer> row, int inTime) {
        if (inTime > bestInTime) {
            bestInTime = inTime;
            bestRow = new ArrayList<>(row);
        }
        for (int v = 0; v < s.fate.length; v++) {
            if (s.fate[v] != 0) continue;
            Scene then = s.copy();
            passIn(then, v);
            if (then.fate[v] == 3 || !Arrays.equals(then.reconciled, s.reconciled)) continue;
            row.add(v);
            line(then, row, inTime + (then.fate[v] == 1 ? 1 : 0));
            row.remove(row.size() - 1);
        }
    }

    int order(int i) {
        bestRow = new ArrayList<>();
        bestInTime = 0;
        line(scene, new ArrayList<>(), 0);
        if (i == NONE) return bestRow.size();
        return i < 0 || i >= bestRow.size() ? NONE : bestRow.get(i);
    }

    int toldHer(int b, int k, int i) {
        if (noBridge(b)) return UNKNOWN;
        if (k < 1 || k > 60) return OUTSIDE;
        List<Integer> fits = new ArrayList<>();
        int about = 0;
        for (int c = 0; c < couples(); c++) {
            for (int t = 0; t < told.themes; t++) {
                int[] q = quarrel(told.grievances.get(c), told.forces.get(c)[t], told.needs.get(b));
                if (q[0] != k || q[2] == 1 || q[3] == 0) continue;
                fits.add(10 * c + t);
                about |= 1 << t;
            }
        }
        if (i == NONE) return fits.size();
        if (i == -2) return about;
        return i < 0 || i >= fits.size() ? NONE : fits.get(i);
    }

    int lasts(int c, int t) {
        if (noCouple(c) || noTheme(t)) return UNKNOWN;
        if (scene.reconciled[c]) return NOT;
        int[] q = quarrel(scene.grievance[c], told.forces.get(c)[t], Integer.MAX_VALUE);
        return q[3] == 1 ? q[0] : 999;
    }

    int wornOut() {
        int who = NONE;
        int least = Integer.MAX_VALUE;
        for (int c = 0; c < couples(); c++) {
            if (scene.reconciled[c]) continue;
            int longest = 0;
            for (int t = 0; t < told.themes; t++) longest = Math.max(longest, lasts(c, t));
            if (longest < least) {
                least = longest;
                who = c;
            }
        }
        return who;
    }

    int carried(int b) {
        if (b != NONE && noBridge(b)) return UNKNOWN;
        int c = coupleAt(scene, 0);
        if (c == NONE) return NOT;
        int bridges = told.needs.size();
        int[] comes = new int[bridges + 1];
        comes[1] = stamp(scene.grievance[c], told.forces.get(c)[scene.theme[c]]);
        for (int up = 2; up < bridges; up++) {
            comes[up] = coupleAt(scene, up - 1) == NONE ? comes[up - 1] : comes[up - 1] / 2;
        }
        if (b != NONE) return comes[b];
        for (int up = 1; up < bridges; up++) if (comes[up] == 0) return up;
        return NONE;
    }

    int hire(int b, int what) {
        if (noBridge(b)) return UNKNOWN;
        if (what < 0 || what > 1) return OUTSIDE;
        List<int[]> asks = new ArrayList<>();
        for (int c = 0; c < couples(); c++) if (costOn(c, b) != NONE) asks.add(new int[] {costOn(c, b), c});
        asks.sort((p, q) -> p[0] != q[0] ? p[0] - q[0] : p[1] - q[1]);
        if (asks.isEmpty()) return NONE;
        return what == 0 ? asks.get(0)[1] : asks.get(Math.min(1, asks.size() - 1))[0];
    }

    int midstream(int c, int n, int q) {
        if (noCouple(c)) return UNKNOWN;
        if (n < 0 || n > 99 || q < 0 || q > 1000) return OUTSIDE;
        long odds = 1000000000L;
        for (int i = 0; i < n; i++) odds = odds * (1000 - Math.max(0, q - scene.grievance[c])) / 1000;
        return (int) odds;
    }

    int fleet(int n) {
        if (n < 1 || n > 9) return OUTSIDE;
        int need = n * told.needs.stream().mapToInt(w -> w).sum();
        for (int size = 0; size <= couples(); size++) {
            for (int set = 0; set < 1 << couples(); set++) {
                int sum = 0;
                boolean fits = Integer.bitCount(set) == size;
                for (int c = 0; c < couples(); c++) {
                    if ((set >> c & 1) == 0) continue;
                    sum += scene.grievance[c];
                    fits &= !scene.reconciled[c];
                }
                if (fits && sum >= need) return set;
            }
        }
        return NONE;
    }

    int write(int c, int g) {
        if (noCouple(c)) return UNKNOWN;
        if (g < 0 || g > 99) return OUTSIDE;
        if (book.size() == 15) return FULL;
        book.add(new int[] {c, g});
        return book.size();
    }

    int tear() {
        int had = book.size();
        book.clear();
        return had;
    }

    int judge() {
        for (int e = 0; e < book.size(); e++) if (scene.grievance[book.get(e)[0]] != book.get(e)[1]) return e;
        return NONE;
    }

    int seed(int v) {
        if (v < 0) return OUTSIDE;
        int was = (int) seed;
        seed = v;
        return was;
    }

    int keep(int i) {
        if (i < 0 || i > 1) return UNKNOWN;
        images[i] = scene.copy();
        imageSeeds[i] = seed;
        past.clear();
        return 1;
    }

    int goBack(int i) {
        if (i < 0 || i > 1) return UNKNOWN;
        if (images[i] == null) return NOT;
        scene = images[i].copy();
        seed = imageSeeds[i];
        past.clear();
        return 1;
    }
}
