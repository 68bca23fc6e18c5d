import java.util.ArrayList;
import java.util.List;
import java.util.TreeMap;
import java.util.TreeSet;

/**
 * Long runs of calls, each answered a second time by a slow and plain reading of the document that shares nothing with
 * the program: crossings by solving for the place, turns by comparing every way out, islands by winding numbers.
 */
public final class OracleTest {
  private static int wrong = 0;
  private static long calls = 0;

  public static void main(String[] args) {
    for (int run = 0; run < 400; run++) {
      smallGrid(run);
      islands(run);
      farPlaces(run);
    }
    System.out.println(calls + " calls, " + wrong + " answers are not as due");
    if (wrong != 0) System.exit(1);
  }

  /** Few places, so that most of them are ends, and much is refused. */
  private static void smallGrid(int seed) {
    Dice dice = new Dice(seed);
    int side = 2 + dice.below(6);
    int joinsOutOf20 = 4 + dice.below(12);
    Pair pair = new Pair("grid " + seed);
    for (int i = 0; i < 512 && wrong < 20; i++) {
      int kind = dice.below(20);
      int x1 = dice.below(side), y1 = dice.below(side), x2 = dice.below(side), y2 = dice.below(side);
      if (kind < joinsOutOf20) pair.join(x1, y1, x2, y2);
      else if (kind == joinsOutOf20) pair.cutAny(dice);
      else if (kind == joinsOutOf20 + 1) pair.cut(x1, y1, x2, y2);
      else pair.ask(dice, -1, side);
    }
    pair.askAll(-1, side);
  }

  /** Closed shapes and stars strewn over a wider field, so that parts lie in one another. */
  private static void islands(int seed) {
    Dice dice = new Dice(seed + 10000);
    int field = 20 + dice.below(60);
    Pair pair = new Pair("islands " + seed);
    for (int i = 0; i < 60 && wrong < 20; i++) {
      int size = 1 + dice.below(dice.below(3) == 0 ? field : 6);
      int x = dice.below(field), y = dice.below(field);
      if (dice.below(4) == 0) pair.star(x, y, size);
      else if (dice.below(2) == 0) pair.shape(x, y, x + size, y, x + size, y + size, x, y + size);
      else pair.shape(x, y, x + size, y + dice.below(3), x + dice.below(3), y + size, x, y + 1 + size / 2);
      for (int k = 0; k < 3; k++) pair.ask(dice, -2, 2 * field);
      if (dice.below(6) == 0) pair.cutAny(dice);
    }
    pair.askAll(-2, Math.min(2 * field, 40));
  }

  /** Places all over the bounds, where products leave the range of int. */
  private static void farPlaces(int seed) {
    Dice dice = new Dice(seed + 20000);
    Pair pair = new Pair("far " + seed);
    int[] xs = new int[12], ys = new int[12];
    for (int i = 0; i < 12; i++) {
      xs[i] = dice.below(5) == 0 ? 500000 : dice.below(1000003) - 500001;
      ys[i] = dice.below(5) == 0 ? -500000 : dice.below(1000003) - 500001;
    }
    for (int i = 0; i < 200 && wrong < 20; i++) {
      int a = dice.below(12), b = dice.below(12);
      int kind = dice.below(8);
      if (kind < 4) pair.join(xs[a], ys[a], xs[b], ys[b]);
      else if (kind == 4) pair.cut(xs[a], ys[a], xs[b], ys[b]);
      else if (kind == 5) pair.locate((xs[a] + xs[b]) / 2, (ys[a] + ys[b]) / 2);
      else pair.ask(dice, -500002, 500003);
    }
  }

  private static final class Dice {
    private long state;

    Dice(long seed) { state = seed * 7919L + 12345L; below(2); below(2); }

    int below(int bound) {
      state = state * 6364136223846793005L + 1442695040888963407L;
      return (int) ((state >>> 33) % bound);
    }
  }

  /** A program and an oracle that get the same calls. */
  private static final class Pair {
    private final String name;
    private final FaceMap map = new FaceMap();
    private final Oracle oracle = new Oracle();

    Pair(String name) { this.name = name; }

    private void due(String call, long got, long want) {
      calls++;
      if (got != want && wrong++ < 20) System.out.println(name + ": " + call + " answered " + got + ", due is " + want);
    }

    private static String text(String method, int... numbers) {
      StringBuilder b = new StringBuilder(method).append('(');
      for (int i = 0; i < numbers.length; i++) b.append(i > 0 ? ", " : "").append(numbers[i]);
      return b.append(')').toString();
    }

    void join(int x1, int y1, int x2, int y2) {
      due(text("join", x1, y1, x2, y2), map.join(x1, y1, x2, y2), oracle.join(x1, y1, x2, y2));
    }

    void cut(int x1, int y1, int x2, int y2) {
      due(text("cut", x1, y1, x2, y2), map.cut(x1, y1, x2, y2) ? 1 : 0, oracle.cut(x1, y1, x2, y2) ? 1 : 0);
    }

    void cutAny(Dice dice) {
      if (oracle.pieces.isEmpty()) return;
      int[] p = new ArrayList<>(oracle.pieces).get(dice.below(oracle.pieces.size()));
      if (dice.below(2) == 0) cut(p[0], p[1], p[2], p[3]);
      else cut(p[2], p[3], p[0], p[1]);
    }

    void shape(int... at) {
      for (int i = 0; i < at.length; i += 2) {
        int k = (i + 2) % at.length;
        join(at[i], at[i + 1], at[k], at[k + 1]);
      }
    }

    void star(int x, int y, int size) {
      join(x, y, x + size, y);
      join(x - size, y, x, y);
      join(x, y + size, x, y);
      join(x, y, x, y - size);
      join(x, y, x + size, y + 1);
      join(x, y, x - 1, y - size);
    }

    void locate(int x, int y) { due(text("locate", x, y), map.locate(x, y), oracle.locate(x, y)); }

    void count(int what) { due(text("count", what), map.count(what), oracle.count(what)); }

    void node(int n, int what) { due(text("node", n, what), map.node(n, what), oracle.node(n, what)); }

    void piece(int p, int what) { due(text("piece", p, what), map.piece(p, what), oracle.piece(p, what)); }

    void left(int x1, int y1, int x2, int y2) {
      due(text("left", x1, y1, x2, y2), map.left(x1, y1, x2, y2), oracle.left(x1, y1, x2, y2));
    }

    void face(int f, int what) { due(text("face", f, what), map.face(f, what), oracle.face(f, what)); }

    void area2(int f) { due(text("area2", f), map.area2(f), oracle.area2(f)); }

    void between(int f, int g) { due(text("between", f, g), map.between(f, g), oracle.between(f, g)); }

    void ask(Dice dice, int from, int to) {
      int what = dice.below(6) - 1;
      int faces = oracle.count(2) + 2;
      switch (dice.below(8)) {
        case 0: count(what); break;
        case 1: node(dice.below(oracle.count(0) + 2) - 1, what); break;
        case 2: piece(dice.below(oracle.count(1) + 2) - 1, what); break;
        case 3: face(dice.below(faces) - 1, what); break;
        case 4: area2(dice.below(faces) - 1); break;
        case 5: between(dice.below(faces) - 1, dice.below(faces) - 1); break;
        case 6: left(dice.below(to - from) + from, dice.below(to - from) + from,
                     dice.below(to - from) + from, dice.below(to - from) + from); break;
        default: locate(dice.below(to - from) + from, dice.below(to - from) + from); break;
      }
    }

    void askAll(int from, int to) {
      for (int what = -1; what <= 4; what++) {
        count(what);
        for (int n = -1; n <= oracle.count(0); n++) node(n, what);
        for (int p = -1; p <= oracle.count(1); p++) piece(p, what);
        for (int f = -1; f <= oracle.count(2); f++) face(f, what);
      }
      for (int[] p : new ArrayList<>(oracle.pieces)) {
        left(p[0], p[1], p[2], p[3]);
        left(p[2], p[3], p[0], p[1]);
      }
      for (int f = -1; f <= oracle.count(2); f++) {
        area2(f);
        for (int g = -1; g <= oracle.count(2); g++) between(f, g);
      }
      for (int x = from; x < to; x++) for (int y = from; y < to; y++) locate(x, y);
    }
  }

  /** A ring: its ways, each as {x1, y1, x2, y2}. */
  private static final class Ring {
    final List<int[]> ways = new ArrayList<>();
    long area;
    int face;

    int[] least() {
      int[] best = ways.get(0);
      for (int[] w : ways) if (compare(w, best) < 0) best = w;
      return best;
    }

    /** How often the ring goes round a place that is not on it. */
    int windings(int x, int y) {
      int turns = 0;
      for (int[] w : ways) {
        long side = (long) (w[2] - w[0]) * (y - w[1]) - (long) (w[3] - w[1]) * (x - w[0]);
        if (w[1] <= y && w[3] > y && side > 0) turns++;
        if (w[1] > y && w[3] <= y && side < 0) turns--;
      }
      return turns;
    }
  }

  private static int compare(int[] a, int[] b) {
    for (int i = 0; i < a.length; i++) if (a[i] != b[i]) return Integer.compare(a[i], b[i]);
    return 0;
  }

  private static final class Oracle {
    final TreeSet<int[]> pieces = new TreeSet<>(OracleTest::compare);
    private boolean stale = true;
    private final List<int[]> nodes = new ArrayList<>();
    private final List<Ring> rings = new ArrayList<>();
    private final List<Ring> rims = new ArrayList<>();
    private final TreeMap<int[], Ring> ringOf = new TreeMap<>(OracleTest::compare);

    private static int[] sorted(int x1, int y1, int x2, int y2) {
      return x1 < x2 || x1 == x2 && y1 < y2 ? new int[] {x1, y1, x2, y2} : new int[] {x2, y2, x1, y1};
    }

    private static boolean out(int v) { return v < -500000 || v > 500000; }

    int join(int x1, int y1, int x2, int y2) {
      if (out(x1) || out(y1) || out(x2) || out(y2) || x1 == x2 && y1 == y2) return -1;
      int[] p = sorted(x1, y1, x2, y2);
      if (pieces.contains(p)) return -3;
      for (int[] q : pieces) if (clash(p, q)) return -2;
      if (pieces.size() >= 1500) return -12;
      pieces.add(p);
      stale = true;
      return pieces.size();
    }

    boolean cut(int x1, int y1, int x2, int y2) {
      boolean gone = pieces.remove(sorted(x1, y1, x2, y2));
      stale |= gone;
      return gone;
    }

    /** Solves p + t r = q + u s for t and u, both over the same divisor. */
    private static boolean clash(int[] p, int[] q) {
      long rx = p[2] - p[0], ry = p[3] - p[1], sx = q[2] - q[0], sy = q[3] - q[1];
      long dx = q[0] - p[0], dy = q[1] - p[1];
      long div = rx * sy - ry * sx;
      long t = dx * sy - dy * sx, u = dx * ry - dy * rx;
      if (div < 0) { div = -div; t = -t; u = -u; }
      if (div != 0) {
        boolean meet = t >= 0 && t <= div && u >= 0 && u <= div;
        return meet && !((t == 0 || t == div) && (u == 0 || u == div));
      }
      if (u != 0) return false;
      long from = dx * rx + dy * ry, to = from + sx * rx + sy * ry, length = rx * rx + ry * ry;
      return Math.max(0, Math.min(from, to)) < Math.min(length, Math.max(from, to));
    }

    int count(int what) {
      build();
      if (what == 0) return nodes.size();
      if (what == 1) return pieces.size();
      if (what == 2) return rims.size() + 1;
      return what == 3 ? parts() : -1;
    }

    private int parts() {
      int[] part = new int[nodes.size()];
      for (int i = 0; i < part.length; i++) part[i] = i;
      int left = part.length;
      for (int[] p : pieces) {
        int a = part[nodeAt(p[0], p[1])], b = part[nodeAt(p[2], p[3])];
        if (a == b) continue;
        left--;
        for (int i = 0; i < part.length; i++) if (part[i] == a) part[i] = b;
      }
      return left;
    }

    private int nodeAt(int x, int y) {
      for (int i = 0; i < nodes.size(); i++) if (nodes.get(i)[0] == x && nodes.get(i)[1] == y) return i;
      throw new IllegalStateException();
    }

    int node(int n, int what) {
      build();
      if (n < 0 || n >= nodes.size() || what < 0 || what > 2) return 1000000;
      if (what < 2) return nodes.get(n)[what];
      int ends = 0;
      for (int[] p : pieces) {
        if (p[0] == nodes.get(n)[0] && p[1] == nodes.get(n)[1]) ends++;
        if (p[2] == nodes.get(n)[0] && p[3] == nodes.get(n)[1]) ends++;
      }
      return ends;
    }

    int piece(int p, int what) {
      build();
      if (p < 0 || p >= pieces.size() || what < 0 || what > 3) return -1;
      int[] at = new ArrayList<>(pieces).get(p);
      if (what == 0) return nodeAt(at[0], at[1]);
      if (what == 1) return nodeAt(at[2], at[3]);
      return what == 2 ? left(at[0], at[1], at[2], at[3]) : left(at[2], at[3], at[0], at[1]);
    }

    int left(int x1, int y1, int x2, int y2) {
      build();
      Ring r = ringOf.get(new int[] {x1, y1, x2, y2});
      return r == null ? -1 : r.face;
    }

    int face(int f, int what) {
      build();
      if (f < 0 || f > rims.size()) return -1;
      int number = 0, ways = 0;
      for (Ring r : rings) if (r.face == f) { number++; ways += r.ways.size(); }
      if (what == 0) return number;
      if (what == 1) return ways;
      if (f == 0 || what < 0 || what > 3) return -1;
      int[] key = rims.get(f - 1).least();
      return what == 2 ? nodeAt(key[0], key[1]) : nodeAt(key[2], key[3]);
    }

    long area2(int f) {
      build();
      if (f <= 0 || f > rims.size()) return 0;
      long sum = 0;
      for (Ring r : rings) if (r.face == f) sum += r.area;
      return sum;
    }

    int locate(int x, int y) {
      if (out(x) || out(y)) return 0;
      build();
      int number = 0;
      for (int[] p : pieces) {
        if (isOn(p, x, y)) return -1 - number;
        number++;
      }
      return faceRound(x, y);
    }

    private static boolean isOn(int[] p, int x, int y) {
      long side = (long) (p[2] - p[0]) * (y - p[1]) - (long) (p[3] - p[1]) * (x - p[0]);
      return side == 0 && x >= p[0] && x <= p[2] && y >= Math.min(p[1], p[3]) && y <= Math.max(p[1], p[3]);
    }

    int between(int f, int g) {
      build();
      if (f < 0 || g < 0 || f > rims.size() || g > rims.size()) return -1;
      int found = 0;
      for (int[] p : pieces) {
        int a = left(p[0], p[1], p[2], p[3]), b = left(p[2], p[3], p[0], p[1]);
        if (Math.min(a, b) == Math.min(f, g) && Math.max(a, b) == Math.max(f, g)) found++;
      }
      return found;
    }

    /** The face of the smallest rim that goes round a place; rims that pass through it do not count. */
    private int faceRound(int x, int y) {
      Ring best = null;
      for (Ring r : rims) {
        boolean touches = false;
        for (int[] w : r.ways) touches |= w[0] == x && w[1] == y;
        if (!touches && r.windings(x, y) != 0 && (best == null || r.area < best.area)) best = r;
      }
      return best == null ? 0 : best.face;
    }

    private void build() {
      if (!stale) return;
      stale = false;
      TreeSet<int[]> ends = new TreeSet<>(OracleTest::compare);
      TreeSet<int[]> ways = new TreeSet<>(OracleTest::compare);
      for (int[] p : pieces) {
        ends.add(new int[] {p[0], p[1]});
        ends.add(new int[] {p[2], p[3]});
        ways.add(p);
        ways.add(new int[] {p[2], p[3], p[0], p[1]});
      }
      nodes.clear();
      nodes.addAll(ends);
      rings.clear();
      rims.clear();
      ringOf.clear();
      for (int[] w : ways) if (!ringOf.containsKey(w)) trace(w, ways);
      for (Ring r : rings) if (r.area > 0) rims.add(r);
      rims.sort((a, b) -> compare(a.least(), b.least()));
      for (int i = 0; i < rims.size(); i++) rims.get(i).face = i + 1;
      for (Ring r : rings) if (r.area <= 0) r.face = faceRound(r.least()[0], r.least()[1]);
    }

    private void trace(int[] start, TreeSet<int[]> ways) {
      Ring r = new Ring();
      for (int[] w = start; !ringOf.containsKey(w); w = next(w, ways)) {
        ringOf.put(w, r);
        r.ways.add(w);
        r.area += (long) w[0] * w[3] - (long) w[2] * w[1];
      }
      rings.add(r);
    }

    private static int[] next(int[] w, TreeSet<int[]> ways) {
      int[] best = null;
      for (int[] o : ways.subSet(new int[] {w[2], w[3], -600000, 0}, new int[] {w[2], w[3], 600000, 0})) {
        if (best == null || turnsLess(w, o, best)) best = o;
      }
      return best;
    }

    /** Whether, turning right from the way back along w, way a is met before way b. */
    private static boolean turnsLess(int[] w, int[] a, int[] b) {
      int ha = half(w, a), hb = half(w, b);
      if (ha != hb) return ha < hb;
      long ax = a[2] - a[0], ay = a[3] - a[1], bx = b[2] - b[0], by = b[3] - b[1];
      return ax * by - ay * bx < 0;
    }

    /** 0: less than half a turn right from the way back; 1: half; 2: more; 3: the way back itself. */
    private static int half(int[] w, int[] o) {
      long bx = w[0] - w[2], by = w[1] - w[3], ox = o[2] - o[0], oy = o[3] - o[1];
      long side = bx * oy - by * ox;
      if (side != 0) return side < 0 ? 0 : 2;
      return bx * ox + by * oy < 0 ? 1 : 3;
    }
  }
}
