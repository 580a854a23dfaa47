/**
 * As much crust as crumb: a cake with whole sides is cut from a middle to marks on its rim.
 *
 * <p>Every amount is kept as a whole number over a denominator that all amounts of one question share
 * (the lengths' least common multiple, times the shares), so that amounts compare without dividing.
 */
public final class CrustCrumb {
    public static final int BAD = -1, STATE = -2, FULL = -3, NONE = -4;

    private static final int MOST_CORNERS = 8;
    private static final int MOST_PEOPLE = 6;
    private static final int MOST_ALIKE = 9;
    private static final int MOST_CHERRIES = 8;
    private static final int MOST_MARKS = 6;
    private static final int MOST_SIGHTS = 8;
    private static final int MOST_SHARE = 9;
    private static final int MOST_POINT = 12;
    private static final int MOST_WAGE = 99;
    private static final int IMAGES = 2;
    private static final int TAPE = 320;
    private static final int NUMERATOR = 0;
    private static final int DENOMINATOR = 1;
    private static final int[] LIKE_SHARES = {1, 1, 1, 1, 1, 1, 1, 1, 1};

    private final byte[] tape = new byte[TAPE];
    private int taped;
    private int textFault;
    private int tear;
    private Cake cake = new Cake();
    private Table table = new Table();
    private final Table[] images = {new Table(), new Table()};
    private final boolean[] kept = new boolean[IMAGES];
    private final Reader reader = new Reader();
    private final Knife knife = new Knife();
    private final Spots spots = new Spots();
    private final Sheets sheets = new Sheets();

    public CrustCrumb() {
        cake.becomeSquare();
        cake.measure();
    }

    // ---- the text

    public int feed(long v) {
        if (taped + 8 > TAPE) {
            return FULL;
        }
        for (int shift = 56; shift >= 0; shift -= 8) {
            tape[taped] = (byte) (v >>> shift);
            taped++;
        }
        return taped;
    }

    public int end(int n) {
        if (n < 0 || n > taped) {
            return BAD;
        }
        int had = taped;
        taped = n;
        return had;
    }

    public int text() {
        int size = taped;
        taped = 0;
        reader.open(tape, size);
        reader.takeText();
        textFault = reader.fault;
        if (textFault != 0) {
            return -10 - reader.faultPlace;
        }
        Cake oldCake = cake;
        cake = reader.cake;
        reader.cake = oldCake;
        Table oldTable = table;
        table = reader.table;
        reader.table = oldTable;
        for (int k = 0; k < IMAGES; k++) {
            kept[k] = false;
        }
        return reader.lines;
    }

    public int fault() {
        return textFault;
    }

    public int rule(int what) {
        switch (what) {
            case 0: return cake.corners;
            case 1: return cake.rim;
            case 2: return cake.area;
            case 3: return pair(table.middleX, table.middleY);
            case 4: return table.begin;
            case 5: return table.gone;
            case 6: return table.people;
            case 7: return table.cherries;
            default: return BAD;
        }
    }

    public int corner(int i, int what) {
        if (!cake.hasCorner(i)) {
            return BAD;
        }
        switch (what) {
            case 0: return cake.xs[i];
            case 1: return cake.ys[i];
            case 2: return cake.lengths[i];
            case 3: return cake.starts[i];
            default: return BAD;
        }
    }

    public int share(int p) {
        return table.hasOne(p) ? table.shares[p] : BAD;
    }

    // ---- what is changed

    public int move(int x, int y) {
        if (!isPoint(x, y) || !cake.holds(x, y)) {
            return BAD;
        }
        int was = pair(table.middleX, table.middleY);
        table.middleX = x;
        table.middleY = y;
        return was;
    }

    public int turn(int b) {
        if (!cake.hasPlace(b)) {
            return BAD;
        }
        int was = table.begin;
        table.begin = b;
        return was;
    }

    public int eat(int g) {
        if (!cake.hasPlace(g)) {
            return BAD;
        }
        int was = table.gone;
        table.gone = g;
        return was;
    }

    public int give(int p, int v) {
        if (!table.hasOne(p) || !isShare(v)) {
            return BAD;
        }
        int was = table.shares[p];
        table.shares[p] = v;
        return was;
    }

    public int join(int v) {
        if (!isShare(v)) {
            return BAD;
        }
        return table.addOne(v) ? table.people : FULL;
    }

    public int put(int x, int y) {
        if (!isPoint(x, y) || !cake.holds(x, y)) {
            return BAD;
        }
        return table.addCherry(x, y) ? table.cherries : FULL;
    }

    // ---- pieces

    public long place(int p, int what) {
        if (!table.hasOne(p) || !isFractionPart(what)) {
            return BAD;
        }
        partAsTold();
        return lowest(knife.bounds[p], knife.scale, what);
    }

    public long crumb(int p, int what) {
        if (!table.hasOne(p) || !isFractionPart(what)) {
            return BAD;
        }
        partAsTold();
        return lowest(knife.crumbOfPiece(p), knife.crumbUnit(), what);
    }

    public long crust(int p, int what) {
        if (!table.hasOne(p) || !isFractionPart(what)) {
            return BAD;
        }
        partAsTold();
        return lowest(knife.crustOfPiece(p), knife.scale, what);
    }

    public long due(int p, int what) {
        if (!table.hasOne(p) || !isFractionPart(what)) {
            return BAD;
        }
        partAsTold();
        return lowest(knife.dueOfPiece(p), knife.dueUnit(), what);
    }

    public long work(int p, int m, int f, int what) {
        if (!table.hasOne(p) || !isWage(m) || !isWage(f) || !isFractionPart(what)) {
            return BAD;
        }
        partAsTold();
        long mown = m * knife.crumbOfPiece(p);
        long fenced = f * knife.crustOfPiece(p) * cake.common;
        return lowest(mown + fenced, knife.crumbUnit(), what);
    }

    public int judge(int what) {
        if (what != 0 && what != 1) {
            return BAD;
        }
        partAsTold();
        for (int p = 0; p < table.people; p++) {
            long excess = knife.excessOfPiece(p);
            if (excess != 0) {
                return verdict(p, excess, what);
            }
        }
        return NONE;
    }

    public long off(int what) {
        if (!isFractionPart(what)) {
            return BAD;
        }
        if (table.people == 0) {
            return STATE;
        }
        partAsTold();
        return lowest(knife.greatestExcess(), knife.dueUnit(), what);
    }

    // ---- circles

    public long far(int i, int what) {
        if (!cake.hasCorner(i) || !isFractionPart(what)) {
            return BAD;
        }
        return lowest(cake.spread(i, table.middleX, table.middleY), cake.lengths[i], what);
    }

    public int round(int x, int y) {
        if (!isPoint(x, y)) {
            return BAD;
        }
        return cake.circleFits(x, y) ? 1 : 0;
    }

    public int rounds(int what) {
        if (what != 0 && what != 1) {
            return BAD;
        }
        int many = 0;
        int first = NONE;
        for (int x = 0; x <= MOST_POINT; x++) {
            for (int y = 0; y <= MOST_POINT; y++) {
                if (cake.circleFits(x, y)) {
                    first = many == 0 ? pair(x, y) : first;
                    many++;
                }
            }
        }
        return what == 0 ? many : first;
    }

    // ---- nearest

    public long best(int what) {
        if (what < 0 || what > 2) {
            return BAD;
        }
        if (table.people == 0) {
            return STATE;
        }
        knife.stand(cake, table.middleX, table.middleY);
        int nearest = NONE;
        long least = 0;
        for (int b = 0; b < cake.rim; b++) {
            knife.part(b, table.gone, table.shares, table.people);
            long greatest = knife.greatestExcess();
            if (nearest == NONE || greatest < least) {
                nearest = b;
                least = greatest;
            }
        }
        return what == 0 ? nearest : lowest(least, knife.dueUnit(), what - 1);
    }

    public long centre(int what) {
        if (what < 0 || what > 2) {
            return BAD;
        }
        if (table.people == 0) {
            return STATE;
        }
        int nearest = NONE;
        long least = 0;
        for (int x = 0; x <= MOST_POINT; x++) {
            for (int y = 0; y <= MOST_POINT; y++) {
                if (cake.holds(x, y)) {
                    long greatest = greatestExcessFrom(x, y);
                    if (nearest == NONE || greatest < least) {
                        nearest = pair(x, y);
                        least = greatest;
                    }
                }
            }
        }
        return what == 0 ? nearest : lowest(least, knife.dueUnit(), what - 1);
    }

    public int alike(int n) {
        if (n < 1 || n > MOST_ALIKE) {
            return BAD;
        }
        knife.stand(cake, table.middleX, table.middleY);
        int many = 0;
        for (int b = 0; b < cake.rim; b++) {
            knife.part(b, 0, LIKE_SHARES, n);
            if (knife.greatestExcess() == 0) {
                many++;
            }
        }
        return many;
    }

    // ---- cherries

    public int cherries(int p) {
        if (!table.hasOne(p)) {
            return BAD;
        }
        partAsTold();
        spots.aim(cake, table);
        return spots.howManyIn(p, knife);
    }

    public int cut() {
        partAsTold();
        spots.aim(cake, table);
        return spots.howManyIn(Spots.ON_A_CUT, knife);
    }

    public int gentle(int what) {
        if (what != 0 && what != 1) {
            return BAD;
        }
        spots.aim(cake, table);
        knife.stand(cake, table.middleX, table.middleY);
        int gentlest = NONE;
        int fewest = 0;
        for (int b = 0; b < cake.rim; b++) {
            knife.part(b, table.gone, table.shares, table.people);
            int many = spots.howManyIn(Spots.ON_A_CUT, knife);
            if (gentlest == NONE || many < fewest) {
                gentlest = b;
                fewest = many;
            }
        }
        return what == 0 ? gentlest : fewest;
    }

    // ---- marks

    public int mark(int b) {
        return markAt(b);
    }

    public int wipe(int n) {
        if (n < 0 || n > table.marks) {
            return BAD;
        }
        int had = table.marks;
        table.marks = n;
        return had;
    }

    public int told(int what) {
        if (what != 0 && what != 1) {
            return BAD;
        }
        if (table.people == 0 || table.marks != table.people) {
            return STATE;
        }
        knife.stand(cake, table.middleX, table.middleY);
        long shares = table.sumOfShares();
        long whole = cake.area * cake.common;
        for (int p = 0; p < table.people; p++) {
            long excess = crumbByMarks(p) * shares - whole * table.shares[p];
            if (excess != 0) {
                return verdict(p, excess, what);
            }
        }
        return NONE;
    }

    // ---- seen

    public int see(int i, int p, boolean is) {
        if (!cake.hasCorner(i) || !table.hasOne(p)) {
            return BAD;
        }
        return table.addSight(i, p, is) ? table.sights : FULL;
    }

    public int forget(int n) {
        if (n < 0 || n > table.sights) {
            return BAD;
        }
        int had = table.sights;
        table.sights = n;
        return had;
    }

    public int begins(int what) {
        if (what < 0 || what > 2) {
            return BAD;
        }
        knife.stand(cake, table.middleX, table.middleY);
        int many = 0;
        int first = NONE;
        int last = NONE;
        for (int b = 0; b < cake.rim; b++) {
            if (allSeenIsSo(b)) {
                first = many == 0 ? b : first;
                last = b;
                many++;
            }
        }
        return what == 0 ? many : what == 1 ? first : last;
    }

    // ---- images, sheets

    public int keep(int k) {
        if (k < 0 || k >= IMAGES) {
            return BAD;
        }
        int was = kept[k] ? 1 : 0;
        images[k].become(table);
        kept[k] = true;
        return was;
    }

    public int back(int k) {
        if (k < 0 || k >= IMAGES) {
            return BAD;
        }
        if (!kept[k]) {
            return STATE;
        }
        table.become(images[k]);
        return table.people;
    }

    public int sheet(int k, int lane, int n) {
        if (!Sheets.isSheet(k) || !Sheets.isLane(lane) || n > Sheets.MOST_CELLS) {
            return BAD;
        }
        if (n < 0) {
            return -10 - Sheets.SIZE;
        }
        sheets.renew(k, lane, n);
        return 1;
    }

    public int lay(int k, int i, int v) {
        if (!Sheets.isSheet(k)) {
            return BAD;
        }
        int found = sheets.faultOfCell(k, i);
        if (found != 0) {
            return -10 - found;
        }
        sheets.write(k, i, v);
        return 1;
    }

    public int read(int k, int lane, int f, int n) {
        if (!Sheets.isSheet(k) || !Sheets.isLane(lane) || n < 0 || n > MOST_MARKS) {
            return BAD;
        }
        int had = table.marks;
        int came = 0;
        int found = 0;
        for (int i = 0; i < n && found == 0; i++) {
            found = sheets.faultOfCellAs(k, lane, f + i);
            if (found == 0) {
                if (markAt(sheets.cellOf(k, f + i)) < 0) {
                    table.marks = had;
                    return -20 - i;
                }
                came++;
            }
        }
        tear = found;
        return came;
    }

    public int torn() {
        return tear;
    }

    public int count(int what) {
        switch (what) {
            case 0: return table.marks;
            case 1: return table.sights;
            case 2: return (kept[0] ? 1 : 0) + (kept[1] ? 1 : 0);
            case 3: return taped;
            case 4: return sheets.isNothing(0) ? NONE : sheets.sizes[0];
            case 5: return table.sumOfShares();
            default: return BAD;
        }
    }

    // ---- what the calls share

    private void partAsTold() {
        knife.stand(cake, table.middleX, table.middleY);
        knife.part(table.begin, table.gone, table.shares, table.people);
    }

    private long greatestExcessFrom(int x, int y) {
        knife.stand(cake, x, y);
        knife.part(table.begin, table.gone, table.shares, table.people);
        return knife.greatestExcess();
    }

    private int markAt(int b) {
        if (!cake.hasPlace(b) || !table.isBehindMarks(b)) {
            return BAD;
        }
        return table.addMark(b) ? table.marks : FULL;
    }

    private long crumbByMarks(int p) {
        int from = table.markPlaces[p];
        int to = p + 1 < table.marks ? table.markPlaces[p + 1] : table.markPlaces[0] + cake.rim;
        return knife.crumbUpTo(to, 1) - knife.crumbUpTo(from, 1);
    }

    private boolean allSeenIsSo(int b) {
        knife.part(b, table.gone, table.shares, table.people);
        for (int s = 0; s < table.sights; s++) {
            int start = cake.starts[table.sightCorners[s]];
            boolean lies = knife.pieceHas(table.sightOnes[s], start);
            if (lies != (table.sightAnswers[s] == 1)) {
                return false;
            }
        }
        return true;
    }

    private static int verdict(int p, long excess, int what) {
        if (what == 0) {
            return p;
        }
        return excess > 0 ? 1 : 0;
    }

    private static int pair(int x, int y) {
        return 100 * x + y;
    }

    private static boolean isPoint(int x, int y) {
        return x >= 0 && x <= MOST_POINT && y >= 0 && y <= MOST_POINT;
    }

    private static boolean isShare(int v) {
        return v >= 1 && v <= MOST_SHARE;
    }

    private static boolean isWage(int v) {
        return v >= 0 && v <= MOST_WAGE;
    }

    private static boolean isFractionPart(int what) {
        return what == NUMERATOR || what == DENOMINATOR;
    }

    private static long lowest(long numerator, long denominator, int what) {
        long common = commonDivisor(numerator, denominator);
        if (common <= 0) {
            return what;
        }
        return what == NUMERATOR ? numerator / common : denominator / common;
    }

    /** Of numbers not below 0; two longs need fewer than a hundred steps. */
    private static long commonDivisor(long a, long b) {
        long big = a;
        long small = b;
        for (int i = 0; i < 100 && small != 0; i++) {
            long rest = big % small;
            big = small;
            small = rest;
        }
        return big;
    }

    /** The corners, and what follows from them alone. */
    private static final class Cake {
        final int[] xs = new int[MOST_CORNERS];
        final int[] ys = new int[MOST_CORNERS];
        final int[] lengths = new int[MOST_CORNERS];
        final int[] starts = new int[MOST_CORNERS];
        int corners;
        int rim;
        int area;
        /** The least common multiple of all lengths. */
        long common = 1;

        void clear() {
            corners = 0;
        }

        void becomeSquare() {
            clear();
            addCorner(0, 0);
            addCorner(6, 0);
            addCorner(6, 6);
            addCorner(0, 6);
        }

        void addCorner(int x, int y) {
            if (corners < MOST_CORNERS) {
                xs[corners] = x;
                ys[corners] = y;
                corners++;
            }
        }

        boolean hasCorner(int i) {
            return i >= 0 && i < corners;
        }

        boolean hasPlace(int b) {
            return b >= 0 && b < rim;
        }

        int next(int i) {
            return i + 1 < corners ? i + 1 : 0;
        }

        /** Twice the area between a side and a point; above 0 if the point lies to the side's left. */
        int spread(int i, int x, int y) {
            int j = next(i);
            return (xs[i] - x) * (ys[j] - y) - (ys[i] - y) * (xs[j] - x);
        }

        boolean turnsLeftAtEach() {
            for (int i = 0; i < corners; i++) {
                int far = next(next(i));
                if (spread(i, xs[far], ys[far]) <= 0) {
                    return false;
                }
            }
            return true;
        }

        /** A way that turns left by less than half a turn at each corner heads upwards anew once a round. */
        boolean goesRoundOnce() {
            int rounds = 0;
            for (int i = 0; i < corners; i++) {
                if (!headsUp(i) && headsUp(next(i))) {
                    rounds++;
                }
            }
            return rounds == 1;
        }

        private boolean headsUp(int i) {
            int j = next(i);
            return ys[j] > ys[i] || ys[j] == ys[i] && xs[j] > xs[i];
        }

        /** Whether each length is a whole number; if so, all that follows from the corners is known. */
        boolean measure() {
            rim = 0;
            area = 0;
            common = 1;
            for (int i = 0; i < corners; i++) {
                int length = lengthOfSide(i);
                if (length <= 0) {
                    return false;
                }
                starts[i] = rim;
                lengths[i] = length;
                rim += length;
                area += spread(i, 0, 0);
                common *= lowest(length, common, NUMERATOR);
            }
            return true;
        }

        private int lengthOfSide(int i) {
            int j = next(i);
            int across = xs[j] - xs[i];
            int up = ys[j] - ys[i];
            int square = across * across + up * up;
            for (int length = 1; length <= 2 * MOST_POINT; length++) {
                if (length * length == square) {
                    return length;
                }
            }
            return 0;
        }

        boolean holds(int x, int y) {
            for (int i = 0; i < corners; i++) {
                if (spread(i, x, y) <= 0) {
                    return false;
                }
            }
            return true;
        }

        boolean circleFits(int x, int y) {
            if (!holds(x, y)) {
                return false;
            }
            for (int i = 1; i < corners; i++) {
                if (spread(i, x, y) * lengths[0] != spread(0, x, y) * lengths[i]) {
                    return false;
                }
            }
            return true;
        }
    }

    /** All that an image keeps. */
    private static final class Table {
        int middleX = 3;
        int middleY = 3;
        int begin;
        int gone;
        int people;
        int cherries;
        int marks;
        int sights;
        final int[] shares = new int[MOST_PEOPLE];
        final int[] cherryXs = new int[MOST_CHERRIES];
        final int[] cherryYs = new int[MOST_CHERRIES];
        final int[] markPlaces = new int[MOST_MARKS];
        final int[] sightCorners = new int[MOST_SIGHTS];
        final int[] sightOnes = new int[MOST_SIGHTS];
        final int[] sightAnswers = new int[MOST_SIGHTS];

        void clear() {
            middleX = 3;
            middleY = 3;
            begin = 0;
            gone = 0;
            people = 0;
            cherries = 0;
            marks = 0;
            sights = 0;
        }

        void become(Table other) {
            middleX = other.middleX;
            middleY = other.middleY;
            begin = other.begin;
            gone = other.gone;
            people = other.people;
            cherries = other.cherries;
            marks = other.marks;
            sights = other.sights;
            System.arraycopy(other.shares, 0, shares, 0, MOST_PEOPLE);
            System.arraycopy(other.cherryXs, 0, cherryXs, 0, MOST_CHERRIES);
            System.arraycopy(other.cherryYs, 0, cherryYs, 0, MOST_CHERRIES);
            System.arraycopy(other.markPlaces, 0, markPlaces, 0, MOST_MARKS);
            System.arraycopy(other.sightCorners, 0, sightCorners, 0, MOST_SIGHTS);
            System.arraycopy(other.sightOnes, 0, sightOnes, 0, MOST_SIGHTS);
            System.arraycopy(other.sightAnswers, 0, sightAnswers, 0, MOST_SIGHTS);
        }

        boolean hasOne(int p) {
            return p >= 0 && p < people;
        }

        boolean addOne(int v) {
            if (people >= MOST_PEOPLE) {
                return false;
            }
            shares[people] = v;
            people++;
            return true;
        }

        int sumOfShares() {
            int sum = 0;
            for (int p = 0; p < people; p++) {
                sum += shares[p];
            }
            return sum;
        }

        boolean addCherry(int x, int y) {
            if (cherries >= MOST_CHERRIES) {
                return false;
            }
            cherryXs[cherries] = x;
            cherryYs[cherries] = y;
            cherries++;
            return true;
        }

        boolean isBehindMarks(int b) {
            return marks == 0 || b > markPlaces[marks - 1];
        }

        boolean addMark(int b) {
            if (marks >= MOST_MARKS) {
                return false;
            }
            markPlaces[marks] = b;
            marks++;
            return true;
        }

        boolean addSight(int i, int p, boolean is) {
            if (sights >= MOST_SIGHTS) {
                return false;
            }
            sightCorners[sights] = i;
            sightOnes[sights] = p;
            sightAnswers[sights] = is ? 1 : 0;
            sights++;
            return true;
        }
    }

    /** Parts a cake from a middle; places are counted in parts of 1 by scale. */
    private static final class Knife {
        private final long[] weights = new long[MOST_CORNERS];
        final long[] bounds = new long[MOST_ALIKE + 1];
        private Cake cake = new Cake();
        private int[] shares = LIKE_SHARES;
        private int left;
        int pieces;
        int begin;
        int scale = 1;

        /** A weight is how far the middle is from a side, times the cake's common multiple. */
        void stand(Cake ofCake, int x, int y) {
            cake = ofCake;
            for (int i = 0; i < cake.corners; i++) {
                int length = cake.lengths[i];
                if (length > 0) {
                    weights[i] = cake.spread(i, x, y) * (cake.common / length);
                }
            }
        }

        /** Needs stand() ahead of it. Without people the first place is a bound all the same. */
        void part(int fromBegin, int gone, int[] byShares, int many) {
            begin = fromBegin;
            shares = byShares;
            pieces = Math.min(many, byShares.length);
            left = cake.rim - gone;
            int sum = 0;
            for (int p = 0; p < pieces; p++) {
                sum += shares[p];
            }
            scale = Math.max(1, sum);
            bounds[0] = (long) (begin + gone) * scale;
            for (int p = 0; p < pieces; p++) {
                bounds[p + 1] = bounds[p] + crustOfPiece(p);
            }
        }

        long crumbUnit() {
            return cake.common * scale;
        }

        long dueUnit() {
            return crumbUnit() * scale;
        }

        /** From corner 0 on, by 1 by (common times ofScale); the place is less than two rounds on. */
        long crumbUpTo(long place, int ofScale) {
            long round = (long) cake.rim * ofScale;
            long rest = place < round ? place : place - round;
            long sum = place < round ? 0 : cake.area * cake.common * ofScale;
            for (int i = 0; i < cake.corners; i++) {
                long behind = rest - (long) cake.starts[i] * ofScale;
                long along = Math.max(0, Math.min(behind, (long) cake.lengths[i] * ofScale));
                sum += weights[i] * along;
            }
            return sum;
        }

        /** By 1 by crumbUnit(). */
        long crumbOfPiece(int p) {
            return crumbUpTo(bounds[p + 1], scale) - crumbUpTo(bounds[p], scale);
        }

        /** By 1 by scale. */
        long crustOfPiece(int p) {
            return (long) left * shares[p];
        }

        /** By 1 by dueUnit(). */
        long dueOfPiece(int p) {
            long all = crumbUpTo(bounds[pieces], scale) - crumbUpTo(bounds[0], scale);
            return all * shares[p];
        }

        /** How much more than its due a piece has, by 1 by dueUnit(). */
        long excessOfPiece(int p) {
            return crumbOfPiece(p) * scale - dueOfPiece(p);
        }

        long greatestExcess() {
            long greatest = 0;
            for (int p = 0; p < pieces; p++) {
                greatest = Math.max(greatest, Math.abs(excessOfPiece(p)));
            }
            return greatest;
        }

        /** Whether a place on the rim lies in a piece: at its first bound too, not at its last. */
        boolean pieceHas(int p, int place) {
            int behind = place < begin ? place + cake.rim : place;
            long scaled = (long) behind * scale;
            return scaled >= bounds[p] && scaled < bounds[p + 1];
        }
    }

    /** Cherries, each as the place on the rim to which a cut through it would go. */
    private static final class Spots {
        static final int ON_A_CUT = -1;
        static final int IN_WHAT_IS_GONE = -2;

        private final long[] numerators = new long[MOST_CHERRIES];
        private final long[] denominators = new long[MOST_CHERRIES];
        private int many;
        private int rim;

        void aim(Cake cake, Table table) {
            many = table.cherries;
            rim = cake.rim;
            for (int c = 0; c < many; c++) {
                // A cherry in the middle has no such place: its denominator stays 0.
                denominators[c] = 0;
                for (int i = 0; i < cake.corners; i++) {
                    aimAtSide(cake, table, c, i);
                }
            }
        }

        /** The way from the middle meets the side between its corners, at its first too, or not at all. */
        private void aimAtSide(Cake cake, Table table, int c, int i) {
            int j = cake.next(i);
            int dx = table.cherryXs[c] - table.middleX;
            int dy = table.cherryYs[c] - table.middleY;
            int first = (cake.xs[i] - table.middleX) * dy - (cake.ys[i] - table.middleY) * dx;
            int second = dx * (cake.ys[j] - table.middleY) - dy * (cake.xs[j] - table.middleX);
            if (first >= 0 && second > 0) {
                denominators[c] = first + second;
                numerators[c] = cake.starts[i] * denominators[c] + (long) cake.lengths[i] * first;
            }
        }

        int howManyIn(int where, Knife knife) {
            int found = 0;
            for (int c = 0; c < many; c++) {
                if (whereIs(c, knife) == where) {
                    found++;
                }
            }
            return found;
        }

        private int whereIs(int c, Knife knife) {
            long denominator = denominators[c];
            long begin = knife.begin * denominator;
            long place = numerators[c] < begin ? numerators[c] + rim * denominator : numerators[c];
            if (denominator == 0 || place == begin) {
                return ON_A_CUT;
            }
            int where = IN_WHAT_IS_GONE;
            int bounds = Math.max(1, knife.pieces);
            for (int p = 0; p < bounds; p++) {
                long ahead = place * knife.scale - knife.bounds[p] * denominator;
                if (ahead == 0) {
                    return ON_A_CUT;
                }
                where = ahead > 0 ? p : where;
            }
            return where;
        }
    }

    /** Reads a text into a cake and a table of its own, up to its first fault. */
    private static final class Reader {
        private static final int CORNER = 0, MIDDLE = 1, BEGIN = 2, GONE = 3, ONE = 4, CHERRY = 5;
        private static final int LINES = 6;
        private static final int[] NUMBERS = {2, 2, 1, 1, 1, 2};
        private static final int[] LEAST = {0, 0, 0, 0, 1, 0};
        private static final int[] GREATEST = {MOST_POINT, MOST_POINT, 99, 99, MOST_SHARE, MOST_POINT};
        private static final int[] AT_MOST = {MOST_CORNERS, 1, 1, 1, MOST_PEOPLE, MOST_CHERRIES};
        private static final int[] FAULT_OF_MORE = {5, 4, 4, 4, 5, 5};
        private static final int END = 0, NAME = 1, NUMBER = 2, SEMICOLON = 3, NO_TOKEN = 4;

        private byte[] tape = new byte[0];
        private int size;
        private int at;
        private int token;
        private int tokenPlace;
        private int tokenNumber;
        private final int[] told = new int[LINES];
        /** The text is read into these: what stands is given for them when a text is taken. */
        Cake cake = new Cake();
        Table table = new Table();
        int lines;
        int fault;
        int faultPlace;

        void open(byte[] bytes, int length) {
            tape = bytes;
            size = Math.min(length, bytes.length);
            at = 0;
            cake.clear();
            table.clear();
            lines = 0;
            fault = 0;
            faultPlace = 0;
            for (int line = 0; line < LINES; line++) {
                told[line] = 0;
            }
        }

        /** Leaves the lines, or the fault and its place; cake and table hold all only without a fault. */
        void takeText() {
            // Each line takes a byte at least.
            for (int i = 0; i <= size; i++) {
                readToken();
                if (token == END) {
                    fault = faultOfWhole();
                    faultPlace = size;
                    return;
                }
                if (!takeLine()) {
                    return;
                }
                lines++;
            }
        }

        private boolean takeLine() {
            if (!isToken(NAME)) {
                return false;
            }
            int line = lineOfName();
            if (line >= LINES) {
                return refuse(2, tokenPlace);
            }
            if (told[line] >= AT_MOST[line]) {
                return refuse(FAULT_OF_MORE[line], tokenPlace);
            }
            told[line]++;
            if (!takeNumber(line)) {
                return false;
            }
            int first = tokenNumber;
            if (NUMBERS[line] == 2 && !takeNumber(line)) {
                return false;
            }
            int last = tokenNumber;
            readToken();
            if (!isToken(SEMICOLON)) {
                return false;
            }
            store(line, first, last);
            return true;
        }

        private boolean takeNumber(int line) {
            readToken();
            if (!isToken(NUMBER)) {
                return false;
            }
            if (tokenNumber < LEAST[line] || tokenNumber > GREATEST[line]) {
                return refuse(3, tokenPlace);
            }
            return true;
        }

        /** first and last are the same number in a line of one. */
        private void store(int line, int first, int last) {
            switch (line) {
                case CORNER:
                    cake.addCorner(first, last);
                    break;
                case MIDDLE:
                    table.middleX = first;
                    table.middleY = last;
                    break;
                case BEGIN:
                    table.begin = first;
                    break;
                case GONE:
                    table.gone = first;
                    break;
                case ONE:
                    table.addOne(first);
                    break;
                default:
                    table.addCherry(first, last);
                    break;
            }
        }

        private boolean isToken(int wanted) {
            if (token == wanted) {
                return true;
            }
            return refuse(token == NO_TOKEN ? 1 : 2, tokenPlace);
        }

        private boolean refuse(int why, int where) {
            fault = why;
            faultPlace = where;
            return false;
        }

        private void readToken() {
            while (at < size && tape[at] == ' ') {
                at++;
            }
            tokenPlace = at;
            if (at >= size) {
                token = END;
            } else if (isLetter(at)) {
                token = NAME;
                skipName();
            } else if (isFigure(at)) {
                readNumber();
            } else {
                token = tape[at] == ';' ? SEMICOLON : NO_TOKEN;
                at++;
            }
        }

        private void skipName() {
            while (at < size && isLetter(at)) {
                at++;
            }
        }

        private void readNumber() {
            tokenNumber = 0;
            while (at < size && isFigure(at)) {
                tokenNumber = 10 * tokenNumber + tape[at] - '0';
                at++;
            }
            token = at - tokenPlace > 2 ? NO_TOKEN : NUMBER;
        }

        private boolean isLetter(int i) {
            return tape[i] >= 'a' && tape[i] <= 'z';
        }

        private boolean isFigure(int i) {
            return tape[i] >= '0' && tape[i] <= '9';
        }

        /** LINES, if the name begins no line. */
        private int lineOfName() {
            int line = 0;
            while (line < LINES && !isName(nameOf(line))) {
                line++;
            }
            return line;
        }

        private static String nameOf(int line) {
            switch (line) {
                case CORNER: return "corner";
                case MIDDLE: return "middle";
                case BEGIN: return "begin";
                case GONE: return "gone";
                case ONE: return "one";
                default: return "cherry";
            }
        }

        private boolean isName(String name) {
            if (at - tokenPlace != name.length()) {
                return false;
            }
            for (int i = 0; i < name.length(); i++) {
                if (tape[tokenPlace + i] != name.charAt(i)) {
                    return false;
                }
            }
            return true;
        }

        private int faultOfWhole() {
            if (cake.corners == 0) {
                cake.becomeSquare();
            }
            if (cake.corners < 3) {
                return 6;
            }
            if (!cake.turnsLeftAtEach() || !cake.goesRoundOnce()) {
                return 7;
            }
            if (!cake.measure()) {
                return 8;
            }
            if (!allLieInside()) {
                return 9;
            }
            return cake.hasPlace(table.begin) && cake.hasPlace(table.gone) ? 0 : 10;
        }

        private boolean allLieInside() {
            for (int c = 0; c < table.cherries; c++) {
                if (!cake.holds(table.cherryXs[c], table.cherryYs[c])) {
                    return false;
                }
            }
            return cake.holds(table.middleX, table.middleY);
        }
    }

    /** Rows of one lane each; a cell holds what a cell of its lane would hold. */
    private static final class Sheets {
        static final int MOST_CELLS = 40;
        static final int NULL = 1, INDEX = 2, CAST = 3, SIZE = 4;
        private static final int MANY = 4, BYTES = 0, SHORTS = 1, INTS = 2;
        private static final int NOTHING = -1;

        private final int[] lanes = new int[MANY];
        final int[] sizes = {NOTHING, NOTHING, NOTHING, NOTHING};
        private final int[][] cells = new int[MANY][MOST_CELLS];

        static boolean isSheet(int k) {
            return k >= 0 && k < MANY;
        }

        static boolean isLane(int lane) {
            return lane >= BYTES && lane <= INTS;
        }

        boolean isNothing(int k) {
            return sizes[k] == NOTHING;
        }

        void renew(int k, int lane, int n) {
            lanes[k] = lane;
            sizes[k] = n;
            for (int i = 0; i < MOST_CELLS; i++) {
                cells[k][i] = 0;
            }
        }

        int faultOfCell(int k, int i) {
            if (isNothing(k)) {
                return NULL;
            }
            return i >= 0 && i < sizes[k] ? 0 : INDEX;
        }

        /** The lane is looked at for each cell: where none is read, there is no fault. */
        int faultOfCellAs(int k, int lane, int i) {
            return isNothing(k) || lanes[k] == lane ? faultOfCell(k, i) : CAST;
        }

        void write(int k, int i, int v) {
            switch (lanes[k]) {
                case BYTES:
                    cells[k][i] = (byte) v;
                    break;
                case SHORTS:
                    cells[k][i] = (short) v;
                    break;
                default:
                    cells[k][i] = v;
                    break;
            }
        }

        int cellOf(int k, int i) {
            return cells[k][i];
        }
    }
}
