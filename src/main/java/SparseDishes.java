/** Dishes on a line, the rulers and covers that they may stand as, their phases, and what is left without one. */
public final class SparseDishes {
    public static final int UNKNOWN = -1, OUTSIDE = -2, STATE = -3, FULL = -4, NO = -5, NONE = -6;

    private static final int MOST_DISHES = 12;
    private static final int LAST_STATION = 60;
    private static final int ROUND = 360;
    private static final int FEWEST_RULER_MARKS = 2, MOST_RULER_MARKS = 7;
    private static final int GREATEST_COVER = 20;
    private static final int RULERS = 0, COVERS = 1;
    /** What is asked from here on is a MARK of the first RULER or COVER. */
    private static final int MARKS_FROM = 10;
    /** What told() is asked from here on is an ERROR, or a SKY. */
    private static final int ERRORS_FROM = 100, SKIES_FROM = 200;

    private final Dishes dishes = new Dishes();
    private final Dishes firstImage = new Dishes();
    private final Dishes secondImage = new Dishes();
    private final Log log = new Log();
    private final Searches rulers = new Searches(RULERS, MOST_RULER_MARKS);
    private final Searches covers = new Searches(COVERS, GREATEST_COVER);
    private int imagesKept;
    private int timesUndone;
    private int timesPhaseTold;

    public SparseDishes() {
    }

    // ---- 1 dishes

    public int put(int station) {
        if (!isStation(station)) return OUTSIDE;
        if (dishes.standsAt(station)) return NO;
        if (dishes.count() >= MOST_DISHES) return FULL;
        change(station, 0);
        return dishes.count();
    }

    public int lift(int station) {
        if (!dishes.standsAt(station)) return UNKNOWN;
        change(station, NONE);
        return dishes.count();
    }

    public int undo() {
        if (log.count() == 0) return NO;
        dishes.become(log.lastStation(), log.lastBefore());
        log.forgetLast();
        timesUndone++;
        return log.count();
    }

    public int station(int i) {
        return Line.markAt(dishes.line(), i);
    }

    public int spacing(int length) {
        if (!isLength(length)) return OUTSIDE;
        return Line.often(dishes.line(), length);
    }

    public int facts(int what) {
        long line = dishes.line();
        switch (what) {
            case 0: return dishes.count();
            case 1: return Line.span(line);
            case 2: return Line.reach(line);
            case 3: return Line.lacking(line);
            case 4: return Line.repeats(line);
            case 5: return Line.leastLacking(line);
            case 6: return Line.mostOften(line);
            default: return OUTSIDE;
        }
    }

    // ---- 2 rulers, covers

    public int ruler(int n, int what) {
        if (!isSearchable(RULERS, n) || !isAskable(what)) return OUTSIDE;
        return rulers.found(n).answer(what);
    }

    public int cover(int length, int what) {
        if (!isSearchable(COVERS, length) || !isAskable(what)) return OUTSIDE;
        return covers.found(length).answer(what);
    }

    public int stand(int kind, int n, int by) {
        if (!isSearchable(kind, n) || !isStation(by)) return OUTSIDE;
        long marks = (kind == RULERS ? rulers : covers).found(n).first();
        if (Line.span(marks) + by > LAST_STATION) return NO;
        dishes.standAs(marks << by);
        log.forgetAll();
        return dishes.count();
    }

    // ---- 3 phases

    public int error(int station, int phase) {
        if (!dishes.standsAt(station)) return UNKNOWN;
        if (!isPhase(phase)) return OUTSIDE;
        int before = dishes.errorAt(station);
        change(station, phase);
        timesPhaseTold++;
        return before;
    }

    public int sky(int spacing, int phase) {
        if (!isLength(spacing) || !isPhase(phase)) return OUTSIDE;
        int before = dishes.skyOf(spacing);
        dishes.tellSky(spacing, phase);
        timesPhaseTold++;
        return before;
    }

    public int phase(int one, int other) {
        if (!dishes.standsAt(one) || !dishes.standsAt(other)) return UNKNOWN;
        if (one == other) return NO;
        return dishes.phaseFrom(one, other);
    }

    public int closure(int one, int other, int third) {
        if (!dishes.standsAt(one) || !dishes.standsAt(other) || !dishes.standsAt(third)) return UNKNOWN;
        if (one == other || other == third || third == one) return NO;
        int sum = dishes.phaseFrom(one, other) + dishes.phaseFrom(other, third) + dishes.phaseFrom(third, one);
        return Math.floorMod(sum, ROUND);
    }

    // ---- 4 what is left

    public int left(int station) {
        if (!dishes.standsAt(station)) return UNKNOWN;
        return Line.reachWithout(dishes.line(), station);
    }

    public int missed(int i) {
        if (i < 0 || i >= dishes.count()) return NONE;
        long notYet = dishes.line();
        for (int ahead = 0; ahead < i && ahead < MOST_DISHES; ahead++) {
            notYet &= ~Line.bit(mostMissedOf(notYet));
        }
        return mostMissedOf(notYet);
    }

    public int sure() {
        if (dishes.count() == 0) return 0;
        return Line.reachWithout(dishes.line(), mostMissedOf(dishes.line()));
    }

    public int image(int k) {
        if (!isImage(k)) return OUTSIDE;
        imageNamed(k).takeAllFrom(dishes);
        imagesKept |= 1 << k;
        return 1;
    }

    public int restore(int k) {
        if (!isImage(k)) return OUTSIDE;
        if ((imagesKept & (1 << k)) == 0) return STATE;
        dishes.takeAllFrom(imageNamed(k));
        log.forgetAll();
        return 1;
    }

    public int told(int what) {
        if (isStation(what - ERRORS_FROM)) return dishes.errorAt(what - ERRORS_FROM);
        if (isLength(what - SKIES_FROM)) return dishes.skyOf(what - SKIES_FROM);
        switch (what) {
            case 0: return log.count();
            case 1: return rulers.count() + covers.count();
            case 2: return rulers.triesInAll() + covers.triesInAll();
            case 3: return timesUndone;
            case 4: return rulers.knownBits();
            case 5: return covers.knownBits();
            case 6: return timesPhaseTold;
            default: return OUTSIDE;
        }
    }

    // ---- what the calls share

    private static boolean isStation(int number) {
        return number >= 0 && number <= LAST_STATION;
    }

    private static boolean isLength(int number) {
        return number >= 1 && number <= LAST_STATION;
    }

    private static boolean isPhase(int number) {
        return number >= 0 && number < ROUND;
    }

    private static boolean isImage(int k) {
        return k == 0 || k == 1;
    }

    private static boolean isAskable(int what) {
        return (what >= 0 && what <= 2) || what >= MARKS_FROM;
    }

    private static boolean isSearchable(int kind, int n) {
        if (kind == RULERS) return n >= FEWEST_RULER_MARKS && n <= MOST_RULER_MARKS;
        return kind == COVERS && n >= 1 && n <= GREATEST_COVER;
    }

    private Dishes imageNamed(int k) {
        return k == 0 ? firstImage : secondImage;
    }

    /** The log keeps what was there before, so that one step back serves all three kinds of change. */
    private void change(int station, int error) {
        log.add(station, dishes.errorAt(station));
        dishes.become(station, error);
    }

    /** Of these DISHES the one without which the least is LEFT of all; of as little, that of the least STATION. */
    private int mostMissedOf(long some) {
        int most = NONE;
        int least = LAST_STATION + 1;
        for (int station = 0; station <= LAST_STATION; station++) {
            if (!Line.has(some, station)) continue;
            int rest = Line.reachWithout(dishes.line(), station);
            if (rest < least) {
                least = rest;
                most = station;
            }
        }
        return most;
    }

    /** Marks on a line from 0 to 60: bit i of a long says that one is at i. */
    private static final class Line {
        static long bit(int at) {
            return isStation(at) ? 1L << at : 0L;
        }

        static boolean has(long line, int at) {
            return (line & bit(at)) != 0;
        }

        /** The i-th one, rising. */
        static int markAt(long line, int i) {
            int ahead = 0;
            for (int at = 0; at <= LAST_STATION; at++) {
                if (!has(line, at)) continue;
                if (ahead == i) return at;
                ahead++;
            }
            return NONE;
        }

        static int span(long line) {
            if (line == 0) return 0;
            return markAt(line, Long.bitCount(line) - 1) - markAt(line, 0);
        }

        static int often(long line, int length) {
            if (!isLength(length)) return 0;
            return Long.bitCount(line & (line >>> length));
        }

        static int reach(long line) {
            for (int length = 1; length <= LAST_STATION; length++) {
                if (often(line, length) == 0) return length - 1;
            }
            return LAST_STATION;
        }

        static int reachWithout(long line, int at) {
            return reach(line & ~bit(at));
        }

        static int lacking(long line) {
            int span = span(line);
            int lack = 0;
            for (int length = 1; length <= span; length++) {
                if (often(line, length) == 0) lack++;
            }
            return lack;
        }

        static int leastLacking(long line) {
            int reach = reach(line);
            return reach < span(line) ? reach + 1 : NONE;
        }

        static int repeats(long line) {
            int repeats = 0;
            for (int length = 1; length <= LAST_STATION; length++) {
                int often = often(line, length);
                if (often > 1) repeats += often - 1;
            }
            return repeats;
        }

        static int mostOften(long line) {
            int which = NONE;
            int most = 0;
            for (int length = 1; length <= LAST_STATION; length++) {
                int often = often(line, length);
                if (often > most) {
                    most = often;
                    which = length;
                }
            }
            return which;
        }
    }

    /** DISHES with their ERRORS, and the SKIES: what an IMAGE keeps. */
    private static final class Dishes {
        private long line;
        /** By STATION; NONE: no DISH is there. */
        private final int[] errors = new int[LAST_STATION + 1];
        /** By SPACING. */
        private final int[] skies = new int[LAST_STATION + 1];

        Dishes() {
            standAs(0L);
        }

        long line() {
            return line;
        }

        int count() {
            return Long.bitCount(line);
        }

        boolean standsAt(int station) {
            return Line.has(line, station);
        }

        int errorAt(int station) {
            return isStation(station) ? errors[station] : NONE;
        }

        int skyOf(int spacing) {
            return isLength(spacing) ? skies[spacing] : 0;
        }

        void tellSky(int spacing, int phase) {
            if (isLength(spacing)) skies[spacing] = phase;
        }

        /** A DISH of this ERROR is at the STATION, or with NONE no DISH, whatever was there. */
        void become(int station, int error) {
            if (!isStation(station)) return;
            errors[station] = error;
            if (error == NONE) line &= ~Line.bit(station);
            else line |= Line.bit(station);
        }

        /** All are gone, and new ones have come at these STATIONS. */
        void standAs(long stations) {
            for (int station = 0; station <= LAST_STATION; station++) {
                become(station, Line.has(stations, station) ? 0 : NONE);
            }
        }

        int phaseFrom(int one, int other) {
            int lesser = Math.min(one, other);
            int greater = Math.max(one, other);
            int rising = skyOf(greater - lesser) + errorAt(greater) - errorAt(lesser);
            return Math.floorMod(one < other ? rising : -rising, ROUND);
        }

        void takeAllFrom(Dishes others) {
            line = others.line;
            System.arraycopy(others.errors, 0, errors, 0, errors.length);
            System.arraycopy(others.skies, 0, skies, 0, skies.length);
        }
    }

    /** The LOG: of each change its STATION, and the ERROR that was there before (NONE: no DISH). */
    private static final class Log {
        private static final int MOST = 16;
        private final int[] stations = new int[MOST];
        private final int[] before = new int[MOST];
        /** Where the next one goes: the rows are used in a ring, so that the eldest is written over. */
        private int next;
        private int count;

        int count() {
            return count;
        }

        void add(int station, int error) {
            int row = ring(next);
            stations[row] = station;
            before[row] = error;
            next = ring(row + 1);
            if (count < MOST) count++;
        }

        int lastStation() {
            return stations[ring(next - 1)];
        }

        int lastBefore() {
            return before[ring(next - 1)];
        }

        void forgetLast() {
            if (count == 0) return;
            next = ring(next - 1);
            count--;
        }

        void forgetAll() {
            count = 0;
        }

        private static int ring(int row) {
            return Math.floorMod(row, MOST);
        }
    }

    /** All SEARCHES of one kind, by what they are for; each is done when it is first asked for, and once. */
    private static final class Searches {
        private final int kind;
        private final Found[] rows;
        private int knownBits;
        private int triesInAll;

        Searches(int kind, int greatest) {
            this.kind = kind;
            rows = new Found[greatest + 1];
            for (int n = 0; n < rows.length; n++) rows[n] = new Found(n);
        }

        /** The callers refuse an n that is not searchable; that it is held inside the rows is a second guard. */
        Found found(int n) {
            int at = Math.max(0, Math.min(n, rows.length - 1));
            Found row = rows[at];
            if ((knownBits & (1 << at)) == 0) {
                if (kind == RULERS) RulerSearch.run(row);
                else CoverSearch.run(row);
                knownBits |= 1 << at;
                triesInAll += row.tries;
            }
            return row;
        }

        int count() {
            return Integer.bitCount(knownBits);
        }

        int knownBits() {
            return knownBits;
        }

        int triesInAll() {
            return triesInAll;
        }
    }

    /** What one SEARCH has found so far. */
    private static final class Found {
        /** What it is for: the MARKS of a RULER, the length of a COVER. */
        private final int asked;
        /** What is tried: the L of a RULER, the MARKS of a COVER; the least by which there are any, in the end. */
        private int size;
        private int number;
        private int tries;
        private long first;

        Found(int asked) {
            this.asked = asked;
        }

        long first() {
            return first;
        }

        void add(long marks) {
            if (number == 0) first = marks;
            number++;
        }

        int answer(int what) {
            switch (what) {
                case 0: return size;
                case 1: return number;
                case 2: return tries;
                default: return Line.markAt(first, what - MARKS_FROM);
            }
        }
    }

    /**
     * Lengths are bits, as marks are. Bit i of 'back' says that a MARK is i ahead of the last one: moved on by
     * the step to the next MARK, its bits are the SPACINGS from there.
     */
    private static final class RulerSearch {
        static void run(Found found) {
            int n = found.asked;
            for (int end = n * (n - 1) / 2; end <= LAST_STATION && found.number == 0; end++) {
                found.size = end;
                tryBehind(found, 0, 1L, 0L, 1L, n - 1);
            }
        }

        private static void tryBehind(Found found, int last, long back, long lengths, long marks, int toCome) {
            if (toCome < 1) return;
            int behind = toCome - 1;
            int from = behind == 0 ? Math.max(last + 1, found.size) : last + 1;
            int to = found.size - behind * (behind + 1) / 2;
            for (int mark = from; mark <= to; mark++) {
                found.tries++;
                long spacings = back << (mark - last);
                if ((spacings & lengths) != 0) continue;
                long withMark = marks | Line.bit(mark);
                if (behind == 0) found.add(withMark);
                else tryBehind(found, mark, spacings | 1L, lengths | spacings, withMark, behind);
            }
        }
    }

    /** 'back' is as in RulerSearch, but for the MARK at the end, which is ahead of none of those between. */
    private static final class CoverSearch {
        static void run(Found found) {
            int length = found.asked;
            for (int m = 2; m <= MOST_DISHES && found.number == 0; m++) {
                if (m * (m - 1) / 2 < length) continue;
                found.size = m;
                long ends = 1L | Line.bit(length);
                long lengths = Line.bit(length);
                if (m > 2) tryBehind(found, 0, 1L, lengths, ends, m - 2);
                else if (lack(found, lengths) == 0) found.add(ends);
            }
        }

        private static void tryBehind(Found found, int last, long back, long lengths, long marks, int toCome) {
            if (toCome < 1) return;
            int behind = toCome - 1;
            int now = found.size - behind;
            int mostNew = behind * now + behind * (behind - 1) / 2;
            for (int mark = last + 1; mark < found.asked; mark++) {
                found.tries++;
                long spacings = back << (mark - last);
                long there = lengths | spacings | Line.bit(found.asked - mark);
                if (lack(found, there) > mostNew) continue;
                long withMark = marks | Line.bit(mark);
                if (behind == 0) found.add(withMark);
                else tryBehind(found, mark, spacings | 1L, there, withMark, behind);
            }
        }

        /** How many of the lengths 1 to that of the COVER are not there. */
        private static int lack(Found found, long lengths) {
            return found.asked - Long.bitCount(lengths);
        }
    }
}
