import java.util.Arrays;

/**
 * The faces of straight pieces between whole-number places that meet at their ends alone.
 *
 * Pieces and nodes are kept sorted as they come and go, so that their numbers are their indices. All that is known of
 * faces is worked out anew at the first question after a change.
 */
public final class FaceMap {
    private static final int MOST_PIECES = 1500;
    private static final int NO_NODE = 1000000;

    private final Pieces pieces;
    private final Nodes nodes;
    private final Sweep sweep;
    private final Faces faces;
    private boolean facesAreOld;

    public FaceMap() {
        pieces = new Pieces();
        nodes = new Nodes();
        sweep = new Sweep(pieces, nodes);
        faces = new Faces(pieces, nodes, sweep);
        facesAreOld = false;
    }

    public int join(int x1, int y1, int x2, int y2) {
        if (!Place.inBounds(x1, y1) || !Place.inBounds(x2, y2)) {
            return -1;
        }
        long a = Place.of(x1, y1);
        long b = Place.of(x2, y2);
        if (a == b) {
            return -1;
        }
        long low = Math.min(a, b);
        long high = Math.max(a, b);
        if (pieces.has(low, high)) {
            return -3;
        }
        if (pieces.clashWith(low, high)) {
            return -2;
        }
        if (pieces.size >= MOST_PIECES) {
            return -12;
        }
        pieces.add(low, high);
        nodes.addEnd(low);
        nodes.addEnd(high);
        facesAreOld = true;
        return pieces.size;
    }

    public boolean cut(int x1, int y1, int x2, int y2) {
        int p = numberOf(x1, y1, x2, y2);
        if (p < 0) {
            return false;
        }
        nodes.dropEnd(pieces.low[p]);
        nodes.dropEnd(pieces.high[p]);
        pieces.remove(p);
        facesAreOld = true;
        return true;
    }

    public int count(int what) {
        switch (what) {
            case 0:
                return nodes.size;
            case 1:
                return pieces.size;
            case 2:
                return freshFaces().size;
            case 3:
                return freshFaces().parts;
            default:
                return -1;
        }
    }

    public int node(int n, int what) {
        if (n < 0 || n >= nodes.size) {
            return NO_NODE;
        }
        switch (what) {
            case 0:
                return Place.x(nodes.at[n]);
            case 1:
                return Place.y(nodes.at[n]);
            case 2:
                return nodes.degree[n];
            default:
                return NO_NODE;
        }
    }

    public int piece(int p, int what) {
        if (p < 0 || p >= pieces.size) {
            return -1;
        }
        switch (what) {
            case 0:
                return nodes.rank(pieces.low[p]);
            case 1:
                return nodes.rank(pieces.high[p]);
            case 2:
                return freshFaces().leftOf[Way.up(p)];
            case 3:
                return freshFaces().leftOf[Way.down(p)];
            default:
                return -1;
        }
    }

    public int left(int x1, int y1, int x2, int y2) {
        int p = numberOf(x1, y1, x2, y2);
        if (p < 0) {
            return -1;
        }
        boolean goesUp = Place.of(x1, y1) < Place.of(x2, y2);
        return freshFaces().leftOf[goesUp ? Way.up(p) : Way.down(p)];
    }

    public int face(int f, int what) {
        Faces known = freshFaces();
        if (!known.has(f)) {
            return -1;
        }
        switch (what) {
            case 0:
                return known.rings[f];
            case 1:
                return known.ways[f];
            case 2:
                return known.keyFrom[f];
            case 3:
                return known.keyTo[f];
            default:
                return -1;
        }
    }

    public long area2(int f) {
        Faces known = freshFaces();
        return f != Faces.OUTSIDE && known.has(f) ? known.area[f] : 0L;
    }

    public int locate(int x, int y) {
        if (!Place.inBounds(x, y)) {
            return Faces.OUTSIDE;
        }
        long place = Place.of(x, y);
        int on = pieces.firstOn(place);
        if (on >= 0) {
            return -1 - on;
        }
        return freshFaces().above(pieces.nextBelow(place));
    }

    public int between(int f, int g) {
        Faces known = freshFaces();
        return known.has(f) && known.has(g) ? known.piecesBetween(f, g) : -1;
    }

    /** The number of the piece with these ends, in either order; -1 if there is none. */
    private int numberOf(int x1, int y1, int x2, int y2) {
        if (!Place.inBounds(x1, y1) || !Place.inBounds(x2, y2)) {
            return -1;
        }
        long a = Place.of(x1, y1);
        long b = Place.of(x2, y2);
        long low = Math.min(a, b);
        long high = Math.max(a, b);
        return pieces.has(low, high) ? pieces.rank(low, high) : -1;
    }

    private Faces freshFaces() {
        if (facesAreOld) {
            sweep.build();
            faces.build();
            facesAreOld = false;
        }
        return faces;
    }

    /** A place packed into one long, so that the lesser place is the lesser long. */
    private static final class Place {
        static final int BOUND = 500000;
        static final int Y_BITS = 20;
        static final long Y_MASK = (1L << Y_BITS) - 1;

        static boolean inBounds(int x, int y) {
            return x >= -BOUND && x <= BOUND && y >= -BOUND && y <= BOUND;
        }

        static long of(int x, int y) {
            return ((long) (x + BOUND) << Y_BITS) | (long) (y + BOUND);
        }

        static int x(long place) {
            return (int) (place >> Y_BITS) - BOUND;
        }

        static int y(long place) {
            return (int) (place & Y_MASK) - BOUND;
        }

        /** Above 0 if c lies to the left of the way from a to b, below 0 to the right, 0 in line. */
        static long side(long a, long b, long c) {
            // Differences alone count, so the packed coordinates do as they are.
            long ax = a >> Y_BITS;
            long ay = a & Y_MASK;
            return ((b >> Y_BITS) - ax) * ((c & Y_MASK) - ay) - ((c >> Y_BITS) - ax) * ((b & Y_MASK) - ay);
        }

        /** Whether the places c and d lie to unlike sides of the line through a and b, neither on it. */
        static boolean divides(long a, long b, long c, long d) {
            long sideOfC = side(a, b, c);
            long sideOfD = side(a, b, d);
            return sideOfC < 0 && sideOfD > 0 || sideOfC > 0 && sideOfD < 0;
        }

        /** Whether c lies on the piece from low to high, but not at an end; low is the lesser. */
        static boolean isInside(long low, long high, long c) {
            return low < c && c < high && side(low, high, c) == 0;
        }

        /** Whether two pieces have a place in common that is not an end of both. They are not the same piece. */
        static boolean clash(long low1, long high1, long low2, long high2) {
            if (isInside(low1, high1, low2) || isInside(low1, high1, high2)) {
                return true;
            }
            if (isInside(low2, high2, low1) || isInside(low2, high2, high1)) {
                return true;
            }
            return divides(low1, high1, low2, high2) && divides(low2, high2, low1, high1);
        }

        /** The share of the way from a to b in the AREA2 of its ring. */
        static long area(long a, long b) {
            return (long) x(a) * y(b) - (long) x(b) * y(a);
        }
    }

    /** The two ways along piece p: up to its greater end, and down to its lesser one. */
    private static final class Way {
        static int up(int p) {
            return 2 * p;
        }

        static int down(int p) {
            return 2 * p + 1;
        }

        static int back(int way) {
            return way ^ 1;
        }

        static int pieceOf(int way) {
            return way >> 1;
        }

        static boolean isUp(int way) {
            return (way & 1) == 0;
        }
    }

    /** The pieces, sorted by lesser end, then by the other one. */
    private static final class Pieces {
        static final int FIRST_ROOM = 8;

        long[] low;
        long[] high;
        int size;

        Pieces() {
            low = new long[FIRST_ROOM];
            high = new long[FIRST_ROOM];
            size = 0;
        }

        /** How many pieces the rows have room for. */
        int room() {
            return low.length;
        }

        /** How many pieces are less than the one from a to b. */
        int rank(long a, long b) {
            int from = 0;
            int to = size;
            while (from < to) {
                int mid = (from + to) >>> 1;
                if (low[mid] < a || low[mid] == a && high[mid] < b) {
                    from = mid + 1;
                } else {
                    to = mid;
                }
            }
            return from;
        }

        boolean has(long a, long b) {
            int p = rank(a, b);
            return p < size && low[p] == a && high[p] == b;
        }

        boolean clashWith(long a, long b) {
            // Pieces that begin at b or behind it can share no place with this one but b as an end of both.
            for (int p = 0; p < size && low[p] < b; p++) {
                if (high[p] > a && Place.clash(low[p], high[p], a, b)) {
                    return true;
                }
            }
            return false;
        }

        void add(long a, long b) {
            if (size == low.length) {
                low = Arrays.copyOf(low, 2 * size);
                high = Arrays.copyOf(high, 2 * size);
            }
            int p = rank(a, b);
            System.arraycopy(low, p, low, p + 1, size - p);
            System.arraycopy(high, p, high, p + 1, size - p);
            low[p] = a;
            high[p] = b;
            size++;
        }

        void remove(int p) {
            size--;
            System.arraycopy(low, p + 1, low, p, size - p);
            System.arraycopy(high, p + 1, high, p, size - p);
        }

        /** The least piece on which a place lies, ends and all; -1 if there is none. */
        int firstOn(long place) {
            for (int p = 0; p < size && low[p] <= place; p++) {
                if (high[p] >= place && Place.side(low[p], high[p], place) == 0) {
                    return p;
                }
            }
            return -1;
        }

        /** The piece met first going straight down from a place that lies on none; -1 if there is none. */
        int nextBelow(long place) {
            int best = -1;
            for (int p = 0; p < size && low[p] < place; p++) {
                boolean isBelow = high[p] > place && Place.side(low[p], high[p], place) > 0;
                if (isBelow && (best < 0 || isOver(p, best))) {
                    best = p;
                }
            }
            return best;
        }

        /** Whether piece p runs over piece q, where q is the lesser and p begins before q ends. */
        boolean isOver(int p, int q) {
            long probe = low[p] == low[q] ? high[p] : low[p];
            return Place.side(low[q], high[q], probe) > 0;
        }
    }

    /** The ends of pieces, sorted, and how many pieces end at each. */
    private static final class Nodes {
        static final int FIRST_ROOM = 16;

        long[] at;
        int[] degree;
        int size;

        Nodes() {
            at = new long[FIRST_ROOM];
            degree = new int[FIRST_ROOM];
            size = 0;
        }

        /** How many nodes are less than a place: the number of the node, if it is one. */
        int rank(long place) {
            int from = 0;
            int to = size;
            while (from < to) {
                int mid = (from + to) >>> 1;
                if (at[mid] < place) {
                    from = mid + 1;
                } else {
                    to = mid;
                }
            }
            return from;
        }

        boolean isAt(int n, long place) {
            return n < size && at[n] == place;
        }

        void addEnd(long place) {
            int n = rank(place);
            if (!isAt(n, place)) {
                insert(n, place);
            }
            degree[n]++;
        }

        void insert(int n, long place) {
            if (size == at.length) {
                at = Arrays.copyOf(at, 2 * size);
                degree = Arrays.copyOf(degree, 2 * size);
            }
            System.arraycopy(at, n, at, n + 1, size - n);
            System.arraycopy(degree, n, degree, n + 1, size - n);
            at[n] = place;
            degree[n] = 0;
            size++;
        }

        void dropEnd(long place) {
            int n = rank(place);
            if (!isAt(n, place)) {
                return;
            }
            degree[n]--;
            if (degree[n] == 0) {
                size--;
                System.arraycopy(at, n + 1, at, n, size - n);
                System.arraycopy(degree, n + 1, degree, n, size - n);
            }
        }
    }

    /**
     * A line that goes over the nodes from the least to the greatest and keeps the pieces that it crosses, the lowest
     * first. From that order come the turns at each node and the piece right below it.
     *
     * The line leans a little, so that of two nodes with the same x it meets the lower one first, and an upright piece
     * is one that goes up steeply.
     */
    private static final class Sweep {
        final Pieces pieces;
        final Nodes nodes;
        /** How many pieces begin at nodes that the line has passed: the first ones, as pieces are sorted. */
        int begun;
        /** The pieces that the line crosses, the lowest first. */
        int[] crossed;
        int crossedSize;
        /** The ways out of the node at hand, turning left from straight down. */
        int[] around;
        /** By way: the one that goes on from it in its ring. */
        int[] next;
        /** By node: the piece right below it, or -1. */
        int[] below;

        Sweep(Pieces pieces, Nodes nodes) {
            this.pieces = pieces;
            this.nodes = nodes;
            makeRows(pieces.room());
        }

        private void makeRows(int room) {
            crossed = new int[room];
            around = new int[room];
            next = new int[2 * room];
            below = new int[2 * room];
        }

        void build() {
            if (crossed.length < pieces.room()) {
                makeRows(pieces.room());
            }
            begun = 0;
            crossedSize = 0;
            for (int n = 0; n < nodes.size; n++) {
                passNode(n);
            }
        }

        private void passNode(int n) {
            long place = nodes.at[n];
            int first = countBelow(place);
            below[n] = first > 0 ? crossed[first - 1] : -1;
            int ups = gatherUps(place);
            int downs = countEnding(first, place);
            for (int i = 0; i < downs; i++) {
                around[ups + i] = Way.down(crossed[first + downs - 1 - i]);
            }
            linkAround(ups + downs);
            exchange(first, downs, ups);
        }

        /** How many of the crossed pieces run below a place, without those that end there. */
        private int countBelow(long place) {
            int from = 0;
            int to = crossedSize;
            while (from < to) {
                int mid = (from + to) >>> 1;
                int p = crossed[mid];
                if (Place.side(pieces.low[p], pieces.high[p], place) > 0) {
                    from = mid + 1;
                } else {
                    to = mid;
                }
            }
            return from;
        }

        /** How many of the crossed pieces end at a place; they lie side by side from the first one on. */
        private int countEnding(int first, long place) {
            int i = first;
            while (i < crossedSize && pieces.high[crossed[i]] == place) {
                i++;
            }
            return i - first;
        }

        /** Puts the ways from the node at hand to greater ones into around, the lowest first: how many there are. */
        private int gatherUps(long place) {
            int size = 0;
            while (begun < pieces.size && pieces.low[begun] == place) {
                int i = countUnder(begun, size);
                System.arraycopy(around, i, around, i + 1, size - i);
                around[i] = Way.up(begun);
                size++;
                begun++;
            }
            return size;
        }

        /** How many of the first ways in around run under piece p, which begins where they do. */
        private int countUnder(int p, int size) {
            int from = 0;
            int to = size;
            while (from < to) {
                int mid = (from + to) >>> 1;
                int q = Way.pieceOf(around[mid]);
                if (Place.side(pieces.low[q], pieces.high[q], pieces.high[p]) > 0) {
                    from = mid + 1;
                } else {
                    to = mid;
                }
            }
            return from;
        }

        /** A way in goes on with the first way out to the right of its way back. */
        private void linkAround(int size) {
            for (int i = 0; i < size; i++) {
                int right = i > 0 ? i - 1 : size - 1;
                next[Way.back(around[i])] = around[right];
            }
        }

        /** The pieces that end at the node at hand give way to those that begin there. */
        private void exchange(int first, int downs, int ups) {
            System.arraycopy(crossed, first + downs, crossed, first + ups, crossedSize - first - downs);
            for (int i = 0; i < ups; i++) {
                crossed[first + i] = Way.pieceOf(around[i]);
            }
            crossedSize += ups - downs;
        }
    }

    /** What is known of faces. */
    private static final class Faces {
        static final int OUTSIDE = 0;
        static final int NOT_YET = -1;

        final Pieces pieces;
        final Nodes nodes;
        final Sweep sweep;
        /** By way: the face to its left. */
        int[] leftOf;
        int[] rings;
        int[] ways;
        int[] keyFrom;
        int[] keyTo;
        long[] area;
        int size;
        int parts;

        Faces(Pieces pieces, Nodes nodes, Sweep sweep) {
            this.pieces = pieces;
            this.nodes = nodes;
            this.sweep = sweep;
            makeRows(pieces.room());
            clear();
        }

        private void makeRows(int room) {
            leftOf = new int[2 * room];
            rings = new int[room + 1];
            ways = new int[room + 1];
            keyFrom = new int[room + 1];
            keyTo = new int[room + 1];
            area = new long[room + 1];
        }

        /** Leaves the outside alone. */
        private void clear() {
            Arrays.fill(leftOf, NOT_YET);
            size = 0;
            parts = 0;
            addFace(-1, -1);
        }

        private int addFace(int from, int to) {
            int f = size;
            rings[f] = 0;
            ways[f] = 0;
            area[f] = 0L;
            keyFrom[f] = from;
            keyTo[f] = to;
            size++;
            return f;
        }

        void build() {
            if (leftOf.length < 2 * pieces.room()) {
                makeRows(pieces.room());
            }
            clear();
            // The least way of a ring leaves its least node, so it is one up. Going through these from the least on, a
            // ring is met first at its least way: so faces come in the order of their keys, and what lies below the
            // least node of a part has its face already.
            for (int p = 0; p < pieces.size; p++) {
                takeRing(p);
            }
        }

        /** Takes the ring that begins with the way up piece p, if it is new. */
        private void takeRing(int p) {
            int way = Way.up(p);
            if (leftOf[way] != NOT_YET) {
                return;
            }
            int from = nodes.rank(pieces.low[p]);
            long ringArea = areaOfRing(way);
            int f;
            if (ringArea > 0) {
                f = addFace(from, nodes.rank(pieces.high[p]));
            } else {
                // No rim: this goes round a whole part from without, and each part has one such ring.
                parts++;
                f = above(sweep.below[from]);
            }
            rings[f]++;
            area[f] += ringArea;
            ways[f] += markRing(way, f);
        }

        private long areaOfRing(int start) {
            long sum = 0;
            int way = start;
            for (int i = 0; i < 2 * pieces.size; i++) {
                int p = Way.pieceOf(way);
                long up = Place.area(pieces.low[p], pieces.high[p]);
                sum += Way.isUp(way) ? up : -up;
                way = sweep.next[way];
                if (way == start) {
                    break;
                }
            }
            return sum;
        }

        /** Gives the ways of a ring their face: how many they are. */
        private int markRing(int start, int f) {
            int marked = 0;
            int way = start;
            while (marked < 2 * pieces.size && leftOf[way] == NOT_YET) {
                leftOf[way] = f;
                way = sweep.next[way];
                marked++;
            }
            return marked;
        }

        boolean has(int f) {
            return f >= 0 && f < size;
        }

        /** The face right above a piece, where -1 stands for there being none. */
        int above(int p) {
            return p < 0 ? OUTSIDE : leftOf[Way.up(p)];
        }

        int piecesBetween(int f, int g) {
            int found = 0;
            for (int p = 0; p < pieces.size; p++) {
                int a = leftOf[Way.up(p)];
                int b = leftOf[Way.down(p)];
                if (a == f && b == g || a == g && b == f) {
                    found++;
                }
            }
            return found;
        }
    }
}
