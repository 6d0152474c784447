/** Gardens on one gutter: what ../shared/DOC.md promises, number by number. */
public final class GutterGardens {
    public static final int UNKNOWN = -1, OUTSIDE = -2, STATE = -3, FULL = -4, NONE = -9;

    private static final int MOST_BYTES = 40;
    private static final int MOST_ROOFS = 6;
    private static final int MOST_ROOFS_TO_PLAN = 4;
    private static final int MOST_ACTS = 12;
    private static final int MOST_GAUGES = 6;
    private static final int MOST_SLOTS = 2;
    private static final int MOST_SOAP = 99;
    private static final int MOST_RAIN = 9;
    private static final int MOST_LUCK_QUARTERS = 8;
    private static final long SEED_FACTOR = 6364136223846793005L;
    private static final long SEED_STEP = 1442695040888963407L;

    private final Text text = new Text();
    private final Reader reader = new Reader();
    private final Roofs roofs = new Roofs();
    private final Waters now = new Waters();
    private final Acts acts = new Acts();
    private final Outlook outlook = new Outlook(roofs, now);
    private final Gauges gauges = new Gauges();
    private final Shelf slots = new Shelf(MOST_SLOTS);
    private long theSeed = 0;

    public GutterGardens() {
    }

    // ---- the street

    public int write(int n, long v) {
        if (n < 1 || n > 8) return OUTSIDE;
        if (!text.hasRoomFor(n)) return FULL;
        text.append(n, v);
        return text.length();
    }

    public int wipe() {
        int was = text.length();
        text.clear();
        return was;
    }

    public int fault() {
        return reader.faultIn(text);
    }

    public int street() {
        if (reader.faultIn(text) != NONE) return STATE;
        roofs.become(reader.told());
        now.beginOn(roofs);
        acts.forgetAll();
        slots.empty();
        return roofs.number();
    }

    public int roof(int roof, int what) {
        if (!roofs.has(roof)) return UNKNOWN;
        switch (what) {
            case 0: return now.waterOn(roof);
            case 1: return now.soapOn(roof);
            case 2: return now.gotBy(roof);
            case 3: return now.spoiltOn(roof);
            case 4: return now.isContent(roofs, roof) ? 1 : 0;
            case 5: return holds(now.damBits(), roof) ? 1 : 0;
            case 6: return roofs.soilOf(roof);
            case 7: return roofs.gutterOf(roof);
            case 8: return roofs.wantOf(roof);
            case 9: return roofs.brimOf(roof);
            default: return OUTSIDE;
        }
    }

    public int dam(int roof, boolean is) {
        if (!roofs.has(roof)) return UNKNOWN;
        if (holds(now.damBits(), roof) == is) return 0;
        now.setDams(now.damBits() ^ bit(roof));
        return 1;
    }

    // ---- acts

    public int quarter(int rain) {
        if (!isRain(rain)) return OUTSIDE;
        acts.remember(now);
        return now.pass(roofs, now.damBits(), rain);
    }

    public int pail(int roof, int n) {
        if (!roofs.has(roof)) return UNKNOWN;
        if (!isWithin(n, 1, 9)) return OUTSIDE;
        if (now.waterOn(roof) < n) return STATE;
        acts.remember(now);
        return now.takeAway(roof, n);
    }

    public int soap(int roof, int n) {
        if (!roofs.has(roof)) return UNKNOWN;
        if (!isWithin(n, 1, 9)) return OUTSIDE;
        if (now.waterOn(roof) < 1) return STATE;
        if (now.soapOn(roof) > MOST_SOAP - n) return FULL;
        acts.remember(now);
        return now.putSoap(roof, n);
    }

    public int undo() {
        if (acts.number() < 1) return STATE;
        int dams = now.damBits();
        acts.takeBack(now);
        now.setDams(dams);
        return acts.number();
    }

    // ---- what comes

    public int got(int roof, int n, int rain) {
        if (!roofs.has(roof)) return UNKNOWN;
        if (!isWithin(n, 0, 20) || !isRain(rain)) return OUTSIDE;
        return outlook.behind(n, rain, now.damBits()).gotBy(roof);
    }

    public int butt(int n, int rain, boolean soap) {
        if (!isWithin(n, 0, 20) || !isRain(rain)) return OUTSIDE;
        Waters then = outlook.behind(n, rain, now.damBits());
        return soap ? then.soapInButt() : then.waterInButt();
    }

    public int dams(int n, int rain) {
        if (!isWithin(n, 1, 6) || !isRain(rain)) return OUTSIDE;
        return outlook.fewestDams(n, rain);
    }

    public int enough(int n, int rain) {
        if (!isWithin(n, 1, 6) || !isRain(rain)) return OUTSIDE;
        return outlook.contentBehind(n, rain, outlook.fewestDams(n, rain));
    }

    public int plan(int n, int rain) {
        int refusal = planRefusal(n, rain);
        if (refusal != 0) return refusal;
        outlook.makePlan(n, rain);
        return outlook.contentByPlan();
    }

    public int planAt(int n, int rain, int i) {
        int refusal = planRefusal(n, rain);
        if (refusal != 0) return refusal;
        if (!isWithin(i, 0, n - 1)) return NONE;
        outlook.makePlan(n, rain);
        return outlook.damsInPlan(n, i);
    }

    public int each(int n, int rain) {
        if (!isWithin(n, 1, 6) || !isRain(rain)) return OUTSIDE;
        return outlook.damsEachForItself(n, rain);
    }

    private int planRefusal(int n, int rain) {
        if (!isWithin(n, 1, 3) || !isRain(rain)) return OUTSIDE;
        return roofs.number() > MOST_ROOFS_TO_PLAN ? STATE : 0;
    }

    // ---- gauges, luck

    public int gauge(int t, int rain, int w) {
        if (!isWithin(t, 1, 6) || !isRain(rain) || !isWithin(w, 0, 999)) return OUTSIDE;
        if (!gauges.hasRoom()) return FULL;
        gauges.add(t, rain, w);
        return gauges.number();
    }

    public int ungauge() {
        int were = gauges.number();
        gauges.clear();
        return were;
    }

    public int fits() {
        gauges.seek(outlook);
        return gauges.fitting();
    }

    public int dammed(boolean some) {
        gauges.seek(outlook);
        if (gauges.fitting() == 0) return NONE;
        return some ? gauges.dammedInSome() : gauges.dammedInAll();
    }

    public long luck(int roof, int n, int rain, int x, boolean upper) {
        if (!roofs.has(roof)) return UNKNOWN;
        if (!isWithin(n, 0, MOST_LUCK_QUARTERS) || !isRain(rain) || !isWithin(x, 0, 10)) return OUTSIDE;
        long above = outlook.luckOf(roof, n, rain, x);
        long below = power(10, n);
        long common = Math.max(1, commonDivisor(above, below));
        return upper ? above / common : below / common;
    }

    public long seed(long v) {
        long was = theSeed;
        theSeed = v;
        return was;
    }

    public int summer(int roof, int m) {
        if (!roofs.has(roof)) return UNKNOWN;
        if (!isWithin(m, 1, 40)) return OUTSIDE;
        Waters then = outlook.behind(0, 0, now.damBits());
        for (int i = 0; i < m; i++) {
            theSeed = theSeed * SEED_FACTOR + SEED_STEP;
            then.pass(roofs, now.damBits(), (int) ((theSeed >>> 33) % 10));
        }
        return then.gotBy(roof) - now.gotBy(roof);
    }

    // ---- slots

    public int keep(int slot) {
        if (!isWithin(slot, 0, MOST_SLOTS - 1)) return UNKNOWN;
        slots.put(slot, now);
        return now.quarters();
    }

    public int again(int slot) {
        if (!isWithin(slot, 0, MOST_SLOTS - 1)) return UNKNOWN;
        if (!slots.isFilled(slot)) return STATE;
        now.become(slots.at(slot));
        acts.forgetAll();
        return now.quarters();
    }

    public int count(int what) {
        switch (what) {
            case 0: return text.length();
            case 1: return roofs.number();
            case 2: return now.quarters();
            case 3: return now.waterInButt();
            case 4: return now.soapInButt();
            case 5: return now.contentBits(roofs);
            case 6: return now.damBits();
            case 7: return acts.number();
            case 8: return gauges.number();
            case 9: return now.waterOnAll();
            default: return OUTSIDE;
        }
    }

    // ---- numbers

    private static boolean isWithin(int number, int least, int most) {
        return number >= least && number <= most;
    }

    private static boolean isRain(int rain) {
        return isWithin(rain, 0, MOST_RAIN);
    }

    private static int bit(int roof) {
        return 1 << roof;
    }

    private static boolean holds(int set, int roof) {
        return (set & bit(roof)) != 0;
    }

    private static long power(long base, int times) {
        long power = 1;
        for (int i = 0; i < times; i++) power *= base;
        return power;
    }

    /** Euclid's; the bound is far above the steps that numbers up to 10 to the 8th can need. */
    private static long commonDivisor(long one, long other) {
        long a = one;
        long b = other;
        for (int i = 0; i < 200 && b != 0; i++) {
            long left = a % b;
            a = b;
            b = left;
        }
        return a;
    }

    // ---- classes inside

    /** THE TEXT. */
    private static final class Text {
        private final int[] bytes = new int[MOST_BYTES];
        private int length = 0;

        int length() {
            return length;
        }

        int at(int place) {
            return place >= 0 && place < bytes.length ? bytes[place] : 0;
        }

        boolean hasRoomFor(int n) {
            return n <= MOST_BYTES - length;
        }

        void append(int n, long v) {
            for (int i = n - 1; i >= 0; i--) appendByte((int) (v >>> (8 * i)) & 255);
        }

        void clear() {
            length = 0;
        }

        private void appendByte(int b) {
            if (length < 0 || length >= bytes.length) return;
            bytes[length] = b;
            length++;
        }
    }

    /** What a street tells of its ROOFS, that no QUARTER changes. */
    private static final class Roofs {
        private final int[] soil = new int[MOST_ROOFS];
        private final int[] gutter = new int[MOST_ROOFS];
        private final int[] want = new int[MOST_ROOFS];
        private final int[] brim = new int[MOST_ROOFS];
        private final int[] atFirst = new int[MOST_ROOFS];
        private int number = 0;

        int number() {
            return number;
        }

        boolean has(int roof) {
            return roof >= 0 && roof < number && roof < MOST_ROOFS;
        }

        boolean hasRoom() {
            return number < MOST_ROOFS;
        }

        /** A ROOF on which no WATER is told yet. */
        boolean hasDry(int roof) {
            return has(roof) && atFirst[roof] == 0;
        }

        boolean hasAnyDry() {
            for (int roof = 0; roof < number; roof++) {
                if (hasDry(roof)) return true;
            }
            return false;
        }

        void clear() {
            number = 0;
        }

        void add(int drinks, int letsDown, int wants, int brimAt) {
            if (number < 0 || number >= MOST_ROOFS) return;
            soil[number] = drinks;
            gutter[number] = letsDown;
            want[number] = wants;
            brim[number] = brimAt;
            atFirst[number] = 0;
            number++;
        }

        void tellWater(int roof, int w) {
            if (has(roof)) atFirst[roof] = w;
        }

        void become(Roofs other) {
            clear();
            for (int roof = 0; other.has(roof) && roof < MOST_ROOFS; roof++) {
                add(other.soil[roof], other.gutter[roof], other.want[roof], other.brim[roof]);
                tellWater(roof, other.atFirst[roof]);
            }
        }

        int soilOf(int roof) {
            return has(roof) ? soil[roof] : 0;
        }

        int gutterOf(int roof) {
            return has(roof) ? gutter[roof] : 0;
        }

        int wantOf(int roof) {
            return has(roof) ? want[roof] : 0;
        }

        int brimOf(int roof) {
            return has(roof) ? brim[roof] : 0;
        }

        int atFirstOn(int roof) {
            return has(roof) ? atFirst[roof] : 0;
        }
    }

    /** Reads a text as a STREET, byte by byte, up to the first one that can be in none. */
    private static final class Reader {
        private static final int NO_PART = 0;
        private static final int DIGITS_OF_ROOF = 4;

        private final Roofs told = new Roofs();
        private final int[] digits = new int[DIGITS_OF_ROOF];
        private int part = NO_PART;
        private int read = 0;
        private int watered = 0;

        /** What the last text told; it is a STREET only if that text had no FAULT. */
        Roofs told() {
            return told;
        }

        int faultIn(Text text) {
            told.clear();
            part = NO_PART;
            for (int place = 0; place < text.length(); place++) {
                if (!takes(place, text.at(place))) return place;
            }
            boolean isWhole = text.length() > 0 && part == NO_PART;
            return isWhole ? NONE : text.length();
        }

        private boolean takes(int place, int b) {
            if (place == 0) return b == 'G';
            if (part == 'R') return takesInRoof(b - '0');
            if (part == 'W') return takesInWater(b - '0');
            return opensPart(b);
        }

        /** A W is at fault by itself when no ROOF is left that it could tell of. */
        private boolean opensPart(int b) {
            boolean opens = b == 'R' && told.hasRoom() || b == 'W' && told.hasAnyDry();
            if (opens) {
                part = b;
                read = 0;
            }
            return opens;
        }

        private boolean takesInRoof(int digit) {
            boolean mayBeZero = read == 0 || read == 2;
            if (!isWithin(digit, mayBeZero ? 0 : 1, 9)) return false;
            if (read >= 0 && read < digits.length) digits[read] = digit;
            read++;
            if (read == DIGITS_OF_ROOF) {
                told.add(digits[0], digits[1], digits[2], digits[3]);
                part = NO_PART;
            }
            return true;
        }

        private boolean takesInWater(int digit) {
            if (read == 0) {
                watered = digit;
                read++;
                return told.hasDry(digit);
            }
            if (!isWithin(digit, 1, 9)) return false;
            told.tellWater(watered, digit);
            part = NO_PART;
            return true;
        }
    }

    /** All that QUARTERS, PAILS, SOAP and DAMS change. */
    private static final class Waters {
        private final int[] water = new int[MOST_ROOFS];
        private final int[] soap = new int[MOST_ROOFS];
        private final int[] got = new int[MOST_ROOFS];
        private final int[] spoilt = new int[MOST_ROOFS];
        private int buttWater = 0;
        private int buttSoap = 0;
        private int quarters = 0;
        private int dams = 0;

        int waterOn(int roof) {
            return isPlace(roof) ? water[roof] : 0;
        }

        int soapOn(int roof) {
            return isPlace(roof) ? soap[roof] : 0;
        }

        int gotBy(int roof) {
            return isPlace(roof) ? got[roof] : 0;
        }

        int spoiltOn(int roof) {
            return isPlace(roof) ? spoilt[roof] : 0;
        }

        int waterInButt() {
            return buttWater;
        }

        int soapInButt() {
            return buttSoap;
        }

        int quarters() {
            return quarters;
        }

        int damBits() {
            return dams;
        }

        void setDams(int bits) {
            dams = bits;
        }

        int waterOnAll() {
            int all = 0;
            for (int roof = 0; roof < MOST_ROOFS; roof++) all += water[roof];
            return all;
        }

        boolean isContent(Roofs roofs, int roof) {
            return gotBy(roof) >= roofs.wantOf(roof);
        }

        int contentBits(Roofs roofs) {
            int bits = 0;
            for (int roof = 0; roofs.has(roof) && roof < MOST_ROOFS; roof++) {
                if (isContent(roofs, roof)) bits |= bit(roof);
            }
            return bits;
        }

        void beginOn(Roofs roofs) {
            for (int roof = 0; roof < MOST_ROOFS; roof++) {
                water[roof] = roofs.atFirstOn(roof);
                soap[roof] = 0;
                got[roof] = 0;
                spoilt[roof] = 0;
            }
            buttWater = 0;
            buttSoap = 0;
            quarters = 0;
            dams = 0;
        }

        void become(Waters other) {
            for (int roof = 0; roof < MOST_ROOFS; roof++) {
                water[roof] = other.water[roof];
                soap[roof] = other.soap[roof];
                got[roof] = other.got[roof];
                spoilt[roof] = other.spoilt[roof];
            }
            buttWater = other.buttWater;
            buttSoap = other.buttSoap;
            quarters = other.quarters;
            dams = other.dams;
        }

        /** How much SOAP goes along with it. */
        int takeAway(int roof, int n) {
            if (!isPlace(roof)) return 0;
            int along = soapAlong(soap[roof], n, water[roof]);
            water[roof] -= n;
            soap[roof] -= along;
            return along;
        }

        int putSoap(int roof, int n) {
            if (!isPlace(roof)) return 0;
            soap[roof] += n;
            return soap[roof];
        }

        /**
         * A QUARTER: how much WATER comes into THE BUTT. All ROOFS let go at once, so what comes from
         * the one ahead is put on a ROOF only when it is settled what goes from there.
         */
        int pass(Roofs roofs, int damBits, int rain) {
            int comes = 0;
            int soapComes = 0;
            for (int roof = 0; roofs.has(roof) && roof < MOST_ROOFS; roof++) {
                water[roof] += rain;
                int drunk = Math.min(roofs.soilOf(roof), water[roof]);
                got[roof] += drunk;
                spoilt[roof] += takeAway(roof, drunk);
                int gutter = holds(damBits, roof) ? 0 : roofs.gutterOf(roof);
                int goes = goingFrom(water[roof], gutter, roofs.brimOf(roof));
                int along = takeAway(roof, goes);
                water[roof] += comes;
                soap[roof] += soapComes;
                comes = goes;
                soapComes = along;
            }
            buttWater += comes;
            buttSoap += soapComes;
            quarters++;
            return comes;
        }

        private static int goingFrom(int there, int gutter, int brim) {
            int byGutter = Math.min(gutter, there);
            int overBrim = Math.max(0, there - byGutter - brim);
            return byGutter + overBrim;
        }

        private static int soapAlong(int soapThere, int goes, int waterThere) {
            if (goes >= waterThere || waterThere < 1) return soapThere;
            return (int) ((long) soapThere * goes / waterThere);
        }

        private static boolean isPlace(int roof) {
            return roof >= 0 && roof < MOST_ROOFS;
        }
    }

    /** Some WATERS, made once and used again. */
    private static final class Shelf {
        private final Waters[] places;
        private final boolean[] filled;
        private final Waters nowhere = new Waters();

        Shelf(int size) {
            int most = Math.max(0, size);
            places = new Waters[most];
            filled = new boolean[most];
            for (int i = 0; i < most; i++) places[i] = new Waters();
        }

        Waters at(int i) {
            if (i < 0 || i >= places.length) return nowhere;
            Waters there = places[i];
            return there == null ? nowhere : there;
        }

        void put(int i, Waters waters) {
            at(i).become(waters);
            if (i >= 0 && i < filled.length) filled[i] = true;
        }

        boolean isFilled(int i) {
            return i >= 0 && i < filled.length && filled[i];
        }

        void empty() {
            for (int i = 0; i < filled.length; i++) filled[i] = false;
        }
    }

    /** THE ROW of ACTS: how it was ahead of each, in a ring, so that the first one can be forgotten. */
    private static final class Acts {
        private final Shelf ring = new Shelf(MOST_ACTS);
        private int next = 0;
        private int number = 0;

        int number() {
            return number;
        }

        void remember(Waters waters) {
            ring.put(next, waters);
            next = next == MOST_ACTS - 1 ? 0 : next + 1;
            number = Math.min(number + 1, MOST_ACTS);
        }

        void takeBack(Waters waters) {
            if (number < 1) return;
            next = next == 0 ? MOST_ACTS - 1 : next - 1;
            number--;
            waters.become(ring.at(next));
        }

        void forgetAll() {
            number = 0;
        }
    }

    /** What comes from now on; it changes nothing but its own WATERS. */
    private static final class Outlook {
        private final Roofs roofs;
        private final Waters now;
        private final Waters trial = new Waters();
        /** The WATERS behind 0, 1, 2, .. QUARTERS of the row that was looked at last. */
        private final Shelf steps = new Shelf(MOST_LUCK_QUARTERS + 1);
        private int planned = 0;
        private int plannedContent = 0;

        Outlook(Roofs roofs, Waters now) {
            this.roofs = roofs;
            this.now = now;
        }

        /** Good until it is asked again. */
        Waters behind(int n, int rain, int damBits) {
            trial.become(now);
            for (int i = 0; i < n; i++) trial.pass(roofs, damBits, rain);
            return trial;
        }

        int sets() {
            return bit(roofs.number());
        }

        int waterInButtNow() {
            return now.waterInButt();
        }

        int contentBehind(int n, int rain, int damBits) {
            return Integer.bitCount(behind(n, rain, damBits).contentBits(roofs));
        }

        /** Sets are tried from the least on, so a later one must be better, not as good. */
        int fewestDams(int n, int rain) {
            int best = 0;
            int bestContent = -1;
            for (int set = 0; set < sets(); set++) {
                int content = contentBehind(n, rain, set);
                boolean isFewer = Integer.bitCount(set) < Integer.bitCount(best);
                if (content > bestContent || content == bestContent && isFewer) {
                    best = set;
                    bestContent = content;
                }
            }
            return best;
        }

        /**
         * WATER only goes down: what a ROOF has GOT lies with itself and those ahead of it, so what those
         * behind it will do can be left out.
         */
        int damsEachForItself(int n, int rain) {
            int chosen = 0;
            for (int roof = 0; roof < roofs.number(); roof++) {
                int without = behind(n, rain, chosen).gotBy(roof);
                int with = behind(n, rain, chosen | bit(roof)).gotBy(roof);
                if (with > without) chosen |= bit(roof);
            }
            return chosen;
        }

        /**
         * Plans are numbers whose digits are the sets, the first QUARTER's highest: the first plan is the
         * least. In a QUARTER SOIL drinks ahead of what DAMS do, so the last set stays empty.
         */
        void makePlan(int n, int rain) {
            int width = roofs.number();
            int leads = 1 << Math.min(width * (n - 1), 8);
            planned = 0;
            plannedContent = -1;
            steps.put(0, now);
            for (int lead = 0; lead < leads && plannedContent < width; lead++) {
                int plan = lead << width;
                for (int i = firstNew(plan, n, width); i < n; i++) {
                    step(i, damsIn(plan, n, i, width), rain);
                }
                int content = Integer.bitCount(steps.at(n).contentBits(roofs));
                if (content > plannedContent) {
                    planned = plan;
                    plannedContent = content;
                }
            }
        }

        int contentByPlan() {
            return plannedContent;
        }

        int damsInPlan(int n, int i) {
            return damsIn(planned, n, i, roofs.number());
        }

        /** Of 10 to the n-th ways, like in weight, those by which the ROOF has ENOUGH. */
        long luckOf(int roof, int n, int rain, int x) {
            long ways = 0;
            steps.put(0, now);
            for (int falls = 0; falls < 1 << n; falls++) {
                for (int i = firstNew(falls, n, 1); i < n; i++) {
                    step(i, now.damBits(), damsIn(falls, n, i, 1) * rain);
                }
                if (steps.at(n).isContent(roofs, roof)) {
                    int wet = Integer.bitCount(falls);
                    ways += power(x, wet) * power(10 - x, n - wet);
                }
            }
            return ways;
        }

        private void step(int i, int damBits, int rain) {
            Waters then = steps.at(i + 1);
            then.become(steps.at(i));
            then.pass(roofs, damBits, rain);
        }

        private static int damsIn(int plan, int n, int i, int width) {
            return plan >> (width * (n - 1 - i)) & (1 << width) - 1;
        }

        /** The first digit of n that is another one than in the number before: behind it stand zeros only. */
        private static int firstNew(int plan, int n, int width) {
            int i = n - 1;
            while (i > 0 && damsIn(plan, n, i, width) == 0) i--;
            return Math.max(i, 0);
        }
    }

    /** GAUGES, and WHO DAMMED by them. */
    private static final class Gauges {
        private final int[] quarters = new int[MOST_GAUGES];
        private final int[] rain = new int[MOST_GAUGES];
        private final int[] more = new int[MOST_GAUGES];
        private int number = 0;
        private int fitting = 0;
        private int inAll = 0;
        private int inSome = 0;

        int number() {
            return number;
        }

        boolean hasRoom() {
            return number < MOST_GAUGES;
        }

        void add(int t, int r, int w) {
            if (number < 0 || number >= MOST_GAUGES) return;
            quarters[number] = t;
            rain[number] = r;
            more[number] = w;
            number++;
        }

        void clear() {
            number = 0;
        }

        void seek(Outlook outlook) {
            fitting = 0;
            inAll = outlook.sets() - 1;
            inSome = 0;
            for (int set = 0; set < outlook.sets(); set++) {
                if (fitsAll(outlook, set)) {
                    fitting++;
                    inAll &= set;
                    inSome |= set;
                }
            }
        }

        int fitting() {
            return fitting;
        }

        int dammedInAll() {
            return inAll;
        }

        int dammedInSome() {
            return inSome;
        }

        private boolean fitsAll(Outlook outlook, int set) {
            for (int i = 0; i < number && i < MOST_GAUGES; i++) {
                int then = outlook.behind(quarters[i], rain[i], set).waterInButt();
                if (then - outlook.waterInButtNow() != more[i]) return false;
            }
            return true;
        }
    }
}
