import java.math.BigInteger;
import java.util.ArrayList;
import java.util.List;
import java.util.function.ToIntFunction;

/** The document once more, told in the slowest and plainest way: every look ahead tries all there is. */
final class Model {
    private static final int UNKNOWN = -1, OUTSIDE = -2, STATE = -3, FULL = -4, NONE = -9;

    /** What stands at one time; it is never changed. */
    private record World(List<Integer> water, List<Integer> soap, List<Integer> got, List<Integer> spoilt,
                         int butt, int buttSoap, int quarters) {
        World with(int roof, int newWater, int newSoap) {
            return new World(set(water, roof, newWater), set(soap, roof, newSoap), got, spoilt, butt, buttSoap, quarters);
        }

        private static List<Integer> set(List<Integer> list, int i, int value) {
            List<Integer> copy = new ArrayList<>(list);
            copy.set(i, value);
            return copy;
        }
    }

    private record Roof(int soil, int gutter, int want, int brim) {
    }

    private record Gauge(int t, int rain, int w) {
    }

    private record Kept(World world, int dams) {
    }

    private String text = "";
    private List<Roof> roofs = new ArrayList<>();
    private World now = new World(List.of(), List.of(), List.of(), List.of(), 0, 0, 0);
    private int dams = 0;
    private final List<World> row = new ArrayList<>();
    private final List<Gauge> gauges = new ArrayList<>();
    private final Kept[] slots = new Kept[2];
    private BigInteger seed = BigInteger.ZERO;

    // ---- the street

    int write(int n, long v) {
        if (n < 1 || n > 8) return OUTSIDE;
        if (text.length() + n > 40) return FULL;
        String eight = "";
        for (int i = 0; i < 8; i++) eight = (char) Math.floorMod(v >> (8 * i), 256L) + eight;
        text += eight.substring(8 - n);
        return text.length();
    }

    int wipe() {
        int was = text.length();
        text = "";
        return was;
    }

    int fault() {
        for (int place = 0; place < text.length(); place++) {
            if (!canBecomeStreet(text.substring(0, place + 1), 4)) return place;
        }
        return isStreet(text) ? NONE : text.length();
    }

    private static boolean canBecomeStreet(String begun, int more) {
        if (isStreet(begun)) return true;
        if (more == 0) return false;
        String tail = begun.isEmpty() ? "G" : "0123456";
        for (char c : tail.toCharArray()) {
            if (canBecomeStreet(begun + c, more - 1)) return true;
        }
        return false;
    }

    private static boolean isStreet(String text) {
        if (!text.matches("G(R[0-9][1-9][0-9][1-9]|W[0-5][1-9])*")) return false;
        int roofs = 0;
        String watered = "";
        for (int i = 1; i < text.length(); i += text.charAt(i) == 'R' ? 5 : 3) {
            if (text.charAt(i) == 'R') {
                roofs++;
            } else {
                char which = text.charAt(i + 1);
                if (which - '0' >= roofs || watered.indexOf(which) >= 0) return false;
                watered += which;
            }
        }
        return roofs <= 6;
    }

    int street() {
        if (!isStreet(text)) return STATE;
        roofs = new ArrayList<>();
        List<Integer> none = new ArrayList<>();
        List<Integer> water = new ArrayList<>();
        for (int i = 1; i < text.length(); i += text.charAt(i) == 'R' ? 5 : 3) {
            if (text.charAt(i) == 'R') {
                roofs.add(new Roof(digit(i + 1), digit(i + 2), digit(i + 3), digit(i + 4)));
                none.add(0);
                water.add(0);
            } else {
                water.set(digit(i + 1), digit(i + 2));
            }
        }
        now = new World(water, none, none, none, 0, 0, 0);
        dams = 0;
        row.clear();
        slots[0] = null;
        slots[1] = null;
        return roofs.size();
    }

    private int digit(int place) {
        return text.charAt(place) - '0';
    }

    int roof(int roof, int what) {
        if (!isRoof(roof)) return UNKNOWN;
        if (what < 0 || what > 9) return OUTSIDE;
        Roof told = roofs.get(roof);
        List<Integer> answers = List.of(now.water.get(roof), now.soap.get(roof), now.got.get(roof),
            now.spoilt.get(roof), enoughBits(now) >> roof & 1, dams >> roof & 1,
            told.soil, told.gutter, told.want, told.brim);
        return answers.get(what);
    }

    int dam(int roof, boolean is) {
        if (!isRoof(roof)) return UNKNOWN;
        int was = dams;
        dams = is ? dams | 1 << roof : dams & ~(1 << roof);
        return was == dams ? 0 : 1;
    }

    private boolean isRoof(int roof) {
        return roof >= 0 && roof < roofs.size();
    }

    // ---- acts

    int quarter(int rain) {
        if (rain < 0 || rain > 9) return OUTSIDE;
        World then = after(now, dams, rain);
        int came = then.butt - now.butt;
        act(then);
        return came;
    }

    private void act(World then) {
        row.add(now);
        if (row.size() > 12) row.remove(0);
        now = then;
    }

    /** All that goes is reckoned on all roofs first, and put where it comes only then. */
    private World after(World w, int damSet, int rain) {
        int n = roofs.size();
        int[] water = new int[n + 1], soap = new int[n + 1], goes = new int[n], along = new int[n];
        List<Integer> got = new ArrayList<>(), spoilt = new ArrayList<>();
        for (int i = 0; i < n; i++) {
            Roof roof = roofs.get(i);
            int there = w.water.get(i) + rain;
            int drunk = Math.min(roof.soil, there);
            int lost = part(w.soap.get(i), drunk, there);
            got.add(w.got.get(i) + drunk);
            spoilt.add(w.spoilt.get(i) + lost);
            water[i] = there - drunk;
            soap[i] = w.soap.get(i) - lost;
            int left = water[i];
            if ((damSet >> i & 1) == 0) left -= Math.min(left, roof.gutter);
            if (left > roof.brim) left = roof.brim;
            goes[i] = water[i] - left;
            along[i] = part(soap[i], goes[i], water[i]);
        }
        water[n] = w.butt;
        soap[n] = w.buttSoap;
        for (int i = 0; i < n; i++) {
            water[i] -= goes[i];
            soap[i] -= along[i];
            water[i + 1] += goes[i];
            soap[i + 1] += along[i];
        }
        List<Integer> newWater = new ArrayList<>(), newSoap = new ArrayList<>();
        for (int i = 0; i < n; i++) {
            newWater.add(water[i]);
            newSoap.add(soap[i]);
        }
        return new World(newWater, newSoap, got, spoilt, water[n], soap[n], w.quarters + 1);
    }

    private static int part(int soap, int goes, int there) {
        if (there == 0) return 0;
        return BigInteger.valueOf(soap).multiply(BigInteger.valueOf(goes)).divide(BigInteger.valueOf(there)).intValue();
    }

    int pail(int roof, int n) {
        if (!isRoof(roof)) return UNKNOWN;
        if (n < 1 || n > 9) return OUTSIDE;
        int there = now.water.get(roof);
        if (there < n) return STATE;
        int soap = now.soap.get(roof);
        int along = part(soap, n, there);
        act(now.with(roof, there - n, soap - along));
        return along;
    }

    int soap(int roof, int n) {
        if (!isRoof(roof)) return UNKNOWN;
        if (n < 1 || n > 9) return OUTSIDE;
        if (now.water.get(roof) == 0) return STATE;
        int soap = now.soap.get(roof) + n;
        if (soap > 99) return FULL;
        act(now.with(roof, now.water.get(roof), soap));
        return soap;
    }

    int undo() {
        if (row.isEmpty()) return STATE;
        now = row.remove(row.size() - 1);
        return row.size();
    }

    // ---- what comes

    private World behind(World w, int damSet, int n, int rain) {
        return n == 0 ? w : behind(after(w, damSet, rain), damSet, n - 1, rain);
    }

    private int enoughBits(World w) {
        int bits = 0;
        for (int i = 0; i < roofs.size(); i++) {
            if (w.got.get(i) >= roofs.get(i).want) bits += 1 << i;
        }
        return bits;
    }

    private int enoughCount(World w) {
        return Integer.bitCount(enoughBits(w));
    }

    private static boolean out(int n, int least, int most, int rain) {
        return n < least || n > most || rain < 0 || rain > 9;
    }

    int got(int roof, int n, int rain) {
        if (!isRoof(roof)) return UNKNOWN;
        return out(n, 0, 20, rain) ? OUTSIDE : behind(now, dams, n, rain).got.get(roof);
    }

    int butt(int n, int rain, boolean soap) {
        if (out(n, 0, 20, rain)) return OUTSIDE;
        World then = behind(now, dams, n, rain);
        return soap ? then.buttSoap : then.butt;
    }

    private int bestBy(ToIntFunction<Integer> rank) {
        int best = 0;
        for (int set = 0; set < 1 << roofs.size(); set++) {
            if (rank.applyAsInt(set) > rank.applyAsInt(best)) best = set;
        }
        return best;
    }

    int dams(int n, int rain) {
        if (out(n, 1, 6, rain)) return OUTSIDE;
        return bestBy(set -> 100 * enoughCount(behind(now, set, n, rain)) - Integer.bitCount(set));
    }

    int enough(int n, int rain) {
        if (out(n, 1, 6, rain)) return OUTSIDE;
        return enoughCount(behind(now, dams(n, rain), n, rain));
    }

    private int[] bestPlan(World w, int n, int rain) {
        if (n == 0) return new int[] {enoughCount(w)};
        int[] best = null;
        for (int set = 0; set < 1 << roofs.size(); set++) {
            int[] rest = bestPlan(after(w, set, rain), n - 1, rain);
            if (best == null || rest[0] > best[0]) {
                best = new int[n + 1];
                best[0] = rest[0];
                best[1] = set;
                System.arraycopy(rest, 1, best, 2, n - 1);
            }
        }
        return best;
    }

    int plan(int n, int rain) {
        if (out(n, 1, 3, rain)) return OUTSIDE;
        return roofs.size() > 4 ? STATE : bestPlan(now, n, rain)[0];
    }

    int planAt(int n, int rain, int i) {
        int plan = plan(n, rain);
        if (plan < 0) return plan;
        return i < 0 || i >= n ? NONE : bestPlan(now, n, rain)[1 + i];
    }

    int each(int n, int rain) {
        return out(n, 1, 6, rain) ? OUTSIDE : chosenFrom(0, 0, n, rain);
    }

    /** What all choose, if those ahead of the roof have these dams: backwards from the last one. */
    private int chosenFrom(int roof, int ahead, int n, int rain) {
        if (roof == roofs.size()) return ahead;
        int without = chosenFrom(roof + 1, ahead, n, rain);
        int with = chosenFrom(roof + 1, ahead | 1 << roof, n, rain);
        boolean better = behind(now, with, n, rain).got.get(roof) > behind(now, without, n, rain).got.get(roof);
        return better ? with : without;
    }

    // ---- gauges, luck

    int gauge(int t, int rain, int w) {
        if (out(t, 1, 6, rain) || w < 0 || w > 999) return OUTSIDE;
        if (gauges.size() == 6) return FULL;
        gauges.add(new Gauge(t, rain, w));
        return gauges.size();
    }

    int ungauge() {
        int were = gauges.size();
        gauges.clear();
        return were;
    }

    private List<Integer> fitting() {
        List<Integer> fitting = new ArrayList<>();
        for (int i = 0; i < 1 << roofs.size(); i++) {
            int set = i;
            if (gauges.stream().allMatch(g -> behind(now, set, g.t, g.rain).butt == now.butt + g.w)) fitting.add(set);
        }
        return fitting;
    }

    int fits() {
        return fitting().size();
    }

    int dammed(boolean some) {
        return fitting().stream().reduce((a, b) -> some ? a | b : a & b).orElse(NONE);
    }

    long luck(int roof, int n, int rain, int x, boolean upper) {
        if (!isRoof(roof)) return UNKNOWN;
        if (out(n, 0, 8, rain) || x < 0 || x > 10) return OUTSIDE;
        BigInteger above = ways(now, roof, n, rain, x);
        BigInteger below = BigInteger.TEN.pow(n);
        BigInteger common = above.gcd(below);
        return (upper ? above : below).divide(common).longValueExact();
    }

    private BigInteger ways(World w, int roof, int n, int rain, int x) {
        if (n == 0) return BigInteger.valueOf(enoughBits(w) >> roof & 1);
        BigInteger wet = ways(after(w, dams, rain), roof, n - 1, rain, x);
        BigInteger dry = ways(after(w, dams, 0), roof, n - 1, rain, x);
        return wet.multiply(BigInteger.valueOf(x)).add(dry.multiply(BigInteger.valueOf(10 - x)));
    }

    long seed(long v) {
        long was = seed.longValue();
        seed = BigInteger.valueOf(v);
        return was;
    }

    int summer(int roof, int m) {
        if (!isRoof(roof)) return UNKNOWN;
        if (m < 1 || m > 40) return OUTSIDE;
        BigInteger all = BigInteger.ONE.shiftLeft(64);
        World then = now;
        for (int i = 0; i < m; i++) {
            seed = seed.multiply(new BigInteger("6364136223846793005")).add(new BigInteger("1442695040888963407")).mod(all);
            then = after(then, dams, seed.shiftRight(33).mod(BigInteger.TEN).intValue());
        }
        return then.got.get(roof) - now.got.get(roof);
    }

    // ---- slots

    int keep(int slot) {
        if (slot != 0 && slot != 1) return UNKNOWN;
        slots[slot] = new Kept(now, dams);
        return now.quarters;
    }

    int again(int slot) {
        if (slot != 0 && slot != 1) return UNKNOWN;
        if (slots[slot] == null) return STATE;
        now = slots[slot].world;
        dams = slots[slot].dams;
        row.clear();
        return now.quarters;
    }

    int count(int what) {
        switch (what) {
            case 0: return text.length();
            case 1: return roofs.size();
            case 2: return now.quarters;
            case 3: return now.butt;
            case 4: return now.buttSoap;
            case 5: return enoughBits(now);
            case 6: return dams;
            case 7: return row.size();
            case 8: return gauges.size();
            case 9: return now.water.stream().mapToInt(w -> w).sum();
            default: return OUTSIDE;
        }
    }
}
