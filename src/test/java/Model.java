import java.util.ArrayDeque;
import java.util.ArrayList;
import java.util.Arrays;
import java.util.Deque;
import java.util.List;
import java.util.regex.Matcher;
import java.util.regex.Pattern;

/** The document once more, as slow and as plain as can be: every way is gone through, nothing is kept from call to call. */
final class Model {
    private static final int BAD = -1;
    private static final int STATE = -2;
    private static final int FULL = -3;
    private static final int NONE = -9;
    private static final int NO = -1000000;
    private static final Pattern TOKEN = Pattern.compile(" *([a-z]|;|[0-9]+)");

    /** What IMAGES keep and what is UNDONE; the past itself apart. */
    private static final class Moment {
        int[] who = {-1, -1, -1, -1, -1, -1};
        int[] store = new int[5];
        int[] forgotten = new int[5];
        int chest;
        int years;

        Moment copy() {
            Moment m = new Moment();
            m.who = who.clone();
            m.store = store.clone();
            m.forgotten = forgotten.clone();
            m.chest = chest;
            m.years = years;
            return m;
        }
    }

    private String text = "";
    private String seasons = "";
    private List<int[]> families = new ArrayList<>();
    private int walks;
    private Moment now = new Moment();
    private Deque<Moment> past = new ArrayDeque<>();
    private final Moment[] image = new Moment[2];
    private final List<Deque<Moment>> imagePast = new ArrayList<>(Arrays.asList(null, null));
    private final List<int[]> seen = new ArrayList<>();
    private long trace;

    // ---- the grotto

    int type(int c) {
        if (c < 0 || c > 255) {
            return BAD;
        }
        if (text.length() == 150) {
            return FULL;
        }
        text += (char) c;
        return text.length();
    }

    int clear() {
        int n = text.length();
        text = "";
        return n;
    }

    int grotto() {
        String newSeasons = "";
        List<int[]> newFamilies = new ArrayList<>();
        int newWalks = -1;
        int items = 0;
        char item = 0;
        List<Integer> numbers = new ArrayList<>();
        int at = 0;
        Matcher m = TOKEN.matcher(text);
        while (true) {
            int start = at;
            while (start < text.length() && text.charAt(start) == ' ') {
                start++;
            }
            if (start == text.length()) {
                if (item != 0) {
                    return -10 - text.length();
                }
                break;
            }
            if (!m.find(at) || m.start() != at) {
                return -10 - start;
            }
            String token = m.group(1);
            at = m.end();
            boolean digits = Character.isDigit(token.charAt(0));
            if (digits && (token.length() > 2 || token.length() == 2 && token.charAt(0) == '0')) {
                return -10 - start;
            }
            int[] limits = item == 'f' ? new int[] {20, 20, 30, 3, 63} : item == 'h' ? new int[] {63} : new int[0];
            boolean fits;
            if (item == 0) {
                fits = token.equals("t") && items == 0 || token.equals("f") && newFamilies.size() < 5 || token.equals("h") && newWalks < 0;
                item = token.charAt(0);
                numbers.clear();
            } else if (numbers.size() < limits.length) {
                fits = digits && Integer.parseInt(token) <= limits[numbers.size()];
                if (fits) {
                    numbers.add(Integer.parseInt(token));
                }
            } else if (item == 't' && !token.equals(";")) {
                fits = "msw".contains(token) && newSeasons.length() < 6;
                newSeasons += token;
            } else {
                fits = token.equals(";");
                if (item == 'f') {
                    newFamilies.add(numbers.stream().mapToInt(Integer::intValue).toArray());
                } else if (item == 'h') {
                    newWalks = numbers.get(0);
                }
                item = 0;
                items++;
            }
            if (!fits) {
                return -10 - start;
            }
        }
        seasons = newSeasons;
        families = newFamilies;
        walks = Math.max(newWalks, 0);
        text = "";
        now = new Moment();
        past.clear();
        seen.clear();
        image[0] = null;
        image[1] = null;
        return items;
    }

    private boolean noTurn(int t) {
        return t < 0 || t >= seasons.length();
    }

    private boolean noFamily(int f) {
        return f < 0 || f >= families.size();
    }

    private boolean winter(int t) {
        return seasons.charAt(t) == 'w';
    }

    private static int none(int f) {
        return f < 0 ? NONE : f;
    }

    private int joy(int[] who, int t) {
        if (who[t] < 0) {
            return 0;
        }
        int all = families.get(who[t])[seasons.charAt(t) == 'm' ? 0 : 1];
        return t > 0 && who[t - 1] == who[t] ? all / 2 : all;
    }

    private int joyOf(int[] who, int f) {
        int sum = 0;
        for (int t = 0; t < seasons.length(); t++) {
            sum += who[t] == f ? joy(who, t) : 0;
        }
        return sum;
    }

    private int joyOfAll(int[] who) {
        int sum = 0;
        for (int f = 0; f < families.size(); f++) {
            sum += joyOf(who, f);
        }
        return sum;
    }

    private int left(int[] who, int f) {
        return joyOf(who, f) - families.get(f)[2];
    }

    private int leastLeft(int[] who) {
        int least = Integer.MAX_VALUE;
        for (int f = 0; f < families.size(); f++) {
            least = Math.min(least, left(who, f));
        }
        return families.isEmpty() ? NO : least;
    }

    private int held(int f) {
        int bits = 0;
        for (int t = 0; t < seasons.length(); t++) {
            bits += now.who[t] == f ? 1 << t : 0;
        }
        return bits;
    }

    int turn(int t, int what) {
        if (noTurn(t) || what < 0 || what > 2) {
            return BAD;
        }
        return what == 0 ? "msw".indexOf(seasons.charAt(t)) : what == 1 ? none(now.who[t]) : joy(now.who, t);
    }

    int family(int f, int what) {
        if (noFamily(f) || what < 0 || what > 9) {
            return NO;
        }
        if (what < 5) {
            return families.get(f)[what];
        }
        return new int[] {held(f), joyOf(now.who, f), left(now.who, f), now.store[f], now.forgotten[f]}[what - 5];
    }

    // ---- what is done

    private void remember() {
        past.addLast(now.copy());
        if (past.size() > 10) {
            past.removeFirst();
        }
    }

    int gives(int t, int f) {
        if (noTurn(t) || f != -1 && noFamily(f)) {
            return BAD;
        }
        if (winter(t)) {
            return STATE;
        }
        remember();
        int was = now.who[t];
        now.who[t] = f;
        return none(was);
    }

    int swaps(int a, int b) {
        if (noTurn(a) || noTurn(b) || a == b) {
            return BAD;
        }
        if (winter(a) || winter(b)) {
            return STATE;
        }
        remember();
        now.who = exchanged(a, b);
        return joyOfAll(now.who);
    }

    private int[] exchanged(int a, int b) {
        int[] who = now.who.clone();
        who[a] = now.who[b];
        who[b] = now.who[a];
        return who;
    }

    int year() {
        if (now.years == 99) {
            return STATE;
        }
        remember();
        now.years++;
        int n = 0;
        for (int f = 0; f < families.size(); f++) {
            now.store[f] += left(now.who, f);
            now.chest += families.get(f)[2];
            if (held(f) == 0) {
                now.forgotten[f]++;
                n++;
            }
        }
        return n;
    }

    int undo() {
        if (past.isEmpty()) {
            return STATE;
        }
        now = past.removeLast().copy();
        return past.size();
    }

    int now(int what) {
        if (what < 0 || what > 5) {
            return NO;
        }
        int without = 0;
        for (int f = 0; f < families.size(); f++) {
            without += held(f) == 0 ? 1 << f : 0;
        }
        return new int[] {now.years, now.chest, joyOfAll(now.who), leastLeft(now.who), without, held(-1)}[what];
    }

    // ---- turns

    /** All ways to give the TURNS, the first first: nobody ahead of all. */
    private List<int[]> waysToGive() {
        List<int[]> ways = new ArrayList<>();
        ways.add(new int[] {-1, -1, -1, -1, -1, -1});
        for (int t = 0; t < seasons.length(); t++) {
            List<int[]> longer = new ArrayList<>();
            for (int[] way : ways) {
                for (int f = -1; f < (winter(t) ? 0 : families.size()); f++) {
                    int[] next = way.clone();
                    next[t] = f;
                    longer.add(next);
                }
            }
            ways = longer;
        }
        return ways;
    }

    int most(int t) {
        if (t != -1 && noTurn(t)) {
            return BAD;
        }
        int best = NO;
        int[] bestWay = null;
        for (int[] way : waysToGive()) {
            int joy = joyOfAll(way);
            if (joy > best) {
                best = joy;
                bestWay = way;
            }
        }
        return t == -1 ? best : none(bestWay[t]);
    }

    int fair(int t) {
        if (t != -1 && noTurn(t) || families.isEmpty()) {
            return NO;
        }
        int best = NO;
        int bestJoy = NO;
        int[] bestWay = null;
        for (int[] way : waysToGive()) {
            int least = leastLeft(way);
            if (least < best) {
                continue;
            }
            int joy = joyOfAll(way);
            if (least > best || joy > bestJoy) {
                best = least;
                bestJoy = joy;
                bestWay = way;
            }
        }
        return t == -1 ? best : none(bestWay[t]);
    }

    int rather(int what) {
        if (what < 0 || what > 1) {
            return BAD;
        }
        List<Integer> twos = new ArrayList<>();
        for (int a = 0; a < seasons.length(); a++) {
            for (int b = a + 1; b < seasons.length(); b++) {
                int f = now.who[a];
                int g = now.who[b];
                if (f >= 0 && g >= 0 && f != g) {
                    int[] then = exchanged(a, b);
                    if (left(then, f) > left(now.who, f) && left(then, g) > left(now.who, g)) {
                        twos.add(10 * a + b);
                    }
                }
            }
        }
        return what == 0 ? twos.size() : twos.isEmpty() ? NONE : twos.get(0);
    }

    int entry(int m, int s, int what) {
        if (m < 0 || m > 20 || s < 0 || s > 20 || what < 0 || what > 1) {
            return NO;
        }
        int bestTurn = NO;
        int bestMore = Integer.MIN_VALUE;
        for (int t = 0; t < seasons.length(); t++) {
            if (!winter(t)) {
                int[] who = now.who.clone();
                who[t] = 77;
                int more = seasons.charAt(t) == 'm' ? m : s;
                more += joyOfAll(who) - joyOfAll(now.who);
                if (more > bestMore) {
                    bestMore = more;
                    bestTurn = t;
                }
            }
        }
        return bestTurn == NO ? NO : what == 0 ? bestTurn : bestMore;
    }

    /** By all sets of TURNS in which HE forgets. */
    long odds(int x, int what) {
        if (x < 0 || x > 10 || what < 0 || what > 1) {
            return BAD;
        }
        int n = seasons.length();
        long upper = 0;
        for (int set = 0; set < 1 << n; set++) {
            long weight = 1;
            int[] who = now.who.clone();
            for (int t = 0; t < n; t++) {
                boolean forgets = (set >> t & 1) == 1;
                weight *= forgets ? x : 10 - x;
                who[t] = forgets ? -1 : who[t];
            }
            upper += weight * joyOfAll(who);
        }
        long lower = 1;
        for (int t = 0; t < n; t++) {
            lower *= 10;
        }
        long a = upper;
        long b = lower;
        while (b != 0) {
            long rest = a % b;
            a = b;
            b = rest;
        }
        return (what == 0 ? upper : lower) / a;
    }

    // ---- ribbons

    int saw(int t, int ribbon) {
        if (noTurn(t) || winter(t) || ribbon < 0 || ribbon > 3) {
            return BAD;
        }
        if (seen.size() == 6) {
            return FULL;
        }
        seen.add(new int[] {t, ribbon});
        return seen.size();
    }

    int forget() {
        int n = seen.size();
        seen.clear();
        return n;
    }

    int ways(int t) {
        if (t != -1 && noTurn(t)) {
            return BAD;
        }
        List<int[]> left = new ArrayList<>();
        for (int[] way : waysToGive()) {
            boolean can = true;
            for (int u = 1; u < seasons.length(); u++) {
                can &= way[u] < 0 || way[u] != way[u - 1];
            }
            for (int[] s : seen) {
                can &= way[s[0]] >= 0 && families.get(way[s[0]])[3] == s[1];
            }
            if (can) {
                left.add(way);
            }
        }
        if (t == -1) {
            return left.size();
        }
        int[] who = left.stream().mapToInt(way -> way[t]).distinct().toArray();
        return who.length == 1 ? none(who[0]) : NONE;
    }

    // ---- cheese

    int cheese(int f) {
        if (f != -1 && noFamily(f)) {
            return BAD;
        }
        int n = families.size();
        int best = -1;
        int[] bestHours = null;
        int all = (int) Math.round(Math.pow(7, n));
        for (int number = 0; number < all; number++) {
            int[] hours = new int[n];
            int rest = number;
            for (int i = n - 1; i >= 0; i--) {
                hours[i] = rest % 7;
                rest /= 7;
            }
            int coming = coming(hours);
            if (coming > best) {
                best = coming;
                bestHours = hours;
            }
        }
        return f == -1 ? best : bestHours[f] == 6 ? NONE : bestHours[f];
    }

    /** How many come at these hours (6: not at all); -1: it can't be. */
    private int coming(int[] hours) {
        int taken = walks;
        int n = 0;
        for (int f = 0; f < hours.length; f++) {
            int bit = 1 << hours[f];
            if (hours[f] < 6) {
                if ((taken & bit) != 0 || (families.get(f)[4] & bit) == 0) {
                    return -1;
                }
                taken |= bit;
                n++;
            }
        }
        return n;
    }

    int free(int w) {
        if (w < 0 || w > 63) {
            return BAD;
        }
        int bits = 0;
        for (int f = 0; f < families.size(); f++) {
            for (int hour = 0; hour < 6; hour++) {
                if ((families.get(f)[4] >> hour & 1) == 1 && (w >> hour & 1) == 0) {
                    bits |= 1 << f;
                }
            }
        }
        return bits;
    }

    // ---- kinds, images

    int mark(int kind, int f) {
        if (kind < 0 || kind > 5 || noFamily(f)) {
            return NO;
        }
        int joy = joyOf(now.who, f);
        int times = Integer.bitCount(held(f));
        int due = families.get(f)[2];
        trace += new long[] {1, 11, 101, 1011, 10101, 100001}[kind];
        return new int[] {joy, joy + times, joy - due, 2 * (joy + times), joy - due + now.forgotten[f], joy + now.years}[kind];
    }

    int keep(int i) {
        if (i < 0 || i > 1) {
            return BAD;
        }
        image[i] = now.copy();
        imagePast.set(i, new ArrayDeque<>(past));
        return now.years;
    }

    int back(int i) {
        if (i < 0 || i > 1) {
            return BAD;
        }
        if (image[i] == null) {
            return STATE;
        }
        now = image[i].copy();
        past = new ArrayDeque<>(imagePast.get(i));
        return now.years;
    }

    int count(int what) {
        if (what < 0 || what > 5) {
            return BAD;
        }
        return new int[] {seasons.length(), families.size(), walks, seen.size(), past.size(), text.length()}[what];
    }

    long trace() {
        return trace;
    }
}
