import java.util.ArrayList;
import java.util.List;
import java.util.TreeMap;
import java.util.TreeSet;

/**
 * Maps on a small grid, whose faces are found a third way: the plane is cut into cells between upright lines and pieces,
 * and cells that touch are one face. No ring is gone round: rings are counted by the parts that a face borders on, areas
 * by adding up cells, and keys are the least of all ways with the face to the left.
 */
public final class PlaneTest {
  /** Every height at which a piece crosses an upright line is a whole number, if heights are taken times this. */
  private static final int SCALE = 2 * 3 * 2 * 5 * 7;
  /** Few pieces leave other faces than many: long sides, and islands with room round them. */
  private static final List<Integer> ASK_AFTER = List.of(5, 8, 12, 20, 40, 150);
  private static int wrong = 0;
  private static long asked = 0;

  public static void main(String[] args) {
    for (int run = 0; run < 1500 && wrong < 20; run++) grow(run);
    System.out.println(asked + " answers, " + wrong + " are not as due");
    if (wrong != 0) System.exit(1);
  }

  private static void due(int run, String call, long got, long want) {
    asked++;
    if (got != want && wrong++ < 20) System.out.println("plane " + run + ": " + call + " answered " + got + ", due is " + want);
  }

  /** Joins and cuts at random, and asks everything now and then. */
  private static void grow(int run) {
    java.util.Random dice = new java.util.Random(run);
    int width = 2 + dice.nextInt(7), longest = 1 + dice.nextInt(7);
    FaceMap map = new FaceMap();
    TreeSet<Piece> pieces = new TreeSet<>();
    for (int i = 1; i <= 150; i++) {
      int x1 = dice.nextInt(width), y1 = dice.nextInt(8), x2 = dice.nextInt(width), y2 = dice.nextInt(8);
      boolean isShort = Math.abs(x1 - x2) <= longest && Math.abs(y1 - y2) <= longest;
      if (isShort) joinBoth(run, map, pieces, x1, y1, x2, y2);
      if (dice.nextInt(12) == 0 && !pieces.isEmpty()) {
        cutBoth(run, map, pieces, new ArrayList<>(pieces).get(dice.nextInt(pieces.size())));
      }
      if (ASK_AFTER.contains(i)) askAll(run, map, new Plane(pieces, width), new ArrayList<>(pieces));
    }
  }

  private static void joinBoth(int run, FaceMap map, TreeSet<Piece> pieces, int x1, int y1, int x2, int y2) {
    Piece p = x1 < x2 || x1 == x2 && y1 < y2 ? new Piece(x1, y1, x2, y2) : new Piece(x2, y2, x1, y1);
    int want = x1 == x2 && y1 == y2 ? -1 : pieces.contains(p) ? -3 : pieces.size() + 1;
    if (want > 0) for (Piece q : pieces) if (p.clashes(q)) want = -2;
    due(run, "join of " + p, map.join(x1, y1, x2, y2), want);
    if (want > 0) pieces.add(p);
  }

  private static void cutBoth(int run, FaceMap map, TreeSet<Piece> pieces, Piece p) {
    due(run, "cut of " + p, map.cut(p.x2, p.y2, p.x1, p.y1) ? 1 : 0, pieces.remove(p) ? 1 : 0);
  }

  private static void askAll(int run, FaceMap map, Plane plane, List<Piece> pieces) {
    int faces = plane.faces.size();
    due(run, "count(0)", map.count(0), plane.nodes.size());
    due(run, "count(1)", map.count(1), pieces.size());
    due(run, "count(2)", map.count(2), faces);
    due(run, "count(3)", map.count(3), plane.countParts(pieces));
    for (int n = 0; n < plane.nodes.size(); n++) askNode(run, map, plane, n);
    for (int p = 0; p < pieces.size(); p++) askPiece(run, map, plane, pieces.get(p), p);
    for (int f = 0; f < faces; f++) {
      askFace(run, map, plane, f);
      for (int g = 0; g < faces; g++) due(run, "between " + f + " and " + g, map.between(f, g), plane.between(f, g));
    }
    for (int x = 0; x < plane.width; x++) {
      for (int y = -1; y <= 8; y++) due(run, "locate(" + x + ", " + y + ")", map.locate(x, y), plane.locate(x, y));
    }
  }

  private static void askNode(int run, FaceMap map, Plane plane, int n) {
    int[] at = plane.nodes.get(n);
    due(run, "x of node " + n, map.node(n, 0), at[0]);
    due(run, "y of node " + n, map.node(n, 1), at[1]);
    int ends = 0;
    for (Piece p : plane.pieces) if (p.endsAt(at[0], at[1])) ends++;
    due(run, "ends at node " + n, map.node(n, 2), ends);
  }

  private static void askPiece(int run, FaceMap map, Plane plane, Piece p, int number) {
    due(run, "lesser node of " + p, map.piece(number, 0), plane.nodeAt(p.x1, p.y1));
    due(run, "other node of " + p, map.piece(number, 1), plane.nodeAt(p.x2, p.y2));
    due(run, "left of " + p, map.piece(number, 2), plane.number(plane.leftOf(p)));
    due(run, "right of " + p, map.piece(number, 3), plane.number(plane.rightOf(p)));
    due(run, "left going up " + p, map.left(p.x1, p.y1, p.x2, p.y2), plane.number(plane.leftOf(p)));
    due(run, "left going down " + p, map.left(p.x2, p.y2, p.x1, p.y1), plane.number(plane.rightOf(p)));
  }

  private static void askFace(int run, FaceMap map, Plane plane, int f) {
    Face face = plane.faces.get(f);
    due(run, "rings of " + f, map.face(f, 0), face.parts.size());
    due(run, "ways of " + f, map.face(f, 1), face.ways);
    due(run, "from node of " + f, map.face(f, 2), f == 0 ? -1 : face.leastWay / Plane.MANY);
    due(run, "to node of " + f, map.face(f, 3), f == 0 ? -1 : face.leastWay % Plane.MANY);
    due(run, "area2 of " + f, map.area2(f), f == 0 ? 0 : face.area / SCALE);
  }

  private record Piece(int x1, int y1, int x2, int y2) implements Comparable<Piece> {
    public int compareTo(Piece o) {
      int[] a = {x1, y1, x2, y2}, b = {o.x1, o.y1, o.x2, o.y2};
      return java.util.Arrays.compare(a, b);
    }

    boolean isUpright() { return x1 == x2; }

    boolean endsAt(int x, int y) { return x1 == x && y1 == y || x2 == x && y2 == y; }

    /** Its height on an upright line that it reaches, times SCALE. */
    int height(int x) { return y1 * SCALE + (y2 - y1) * (x - x1) * (SCALE / (x2 - x1)); }

    boolean isOn(int x, int scaledY) {
      if (x < x1 || x > x2) return false;
      return isUpright() ? scaledY >= y1 * SCALE && scaledY <= y2 * SCALE : height(x) == scaledY;
    }

    /** Whether a place in common with another piece is not an end of both. */
    boolean clashes(Piece o) {
      if (isUpright() && o.isUpright()) return x1 == o.x1 && Math.max(y1, o.y1) < Math.min(y2, o.y2);
      if (isUpright()) return o.clashes(this);
      if (o.isUpright()) return x1 <= o.x1 && o.x1 <= x2 && o.isOn(o.x1, height(o.x1)) && !meetsAtEnd(o, o.x1);
      int before = 0;
      for (int x = Math.max(x1, o.x1); x <= Math.min(x2, o.x2); x++) {
        int now = Integer.compare(height(x), o.height(x));
        if (now * before < 0 || now == 0 && !meetsAtEnd(o, x)) return true;
        before = now;
      }
      return false;
    }

    private boolean meetsAtEnd(Piece o, int x) {
      int y = height(x) / SCALE;
      return height(x) % SCALE == 0 && endsAt(x, y) && o.endsAt(x, y);
    }
  }

  private static final class Face {
    final TreeSet<Integer> parts = new TreeSet<>();
    int leastWay = Integer.MAX_VALUE;
    int ways;
    long area;
  }

  /** The plane, cut into cells; of a strip between the lines x and x + 1, cell k lies over k pieces. */
  private static final class Plane {
    static final int MANY = 1000;
    final TreeSet<Piece> pieces;
    final int width;
    final List<int[]> nodes = new ArrayList<>();
    final List<Face> faces = new ArrayList<>();
    private final int[] part;
    /** By cell: another one of the same face, or itself. */
    private final int[] same;
    private final TreeMap<Integer, Integer> numberOfCell = new TreeMap<>();

    Plane(TreeSet<Piece> pieces, int width) {
      this.pieces = pieces;
      this.width = width;
      for (int x = 0; x < width; x++) for (int y = 0; y < 8; y++) if (isEnd(x, y)) nodes.add(new int[] {x, y});
      part = new int[nodes.size()];
      for (int i = 0; i < part.length; i++) part[i] = i;
      for (Piece p : pieces) mergeParts(part[nodeAt(p.x1, p.y1)], part[nodeAt(p.x2, p.y2)]);
      same = new int[(width + 1) * MANY];
      for (int i = 0; i < same.length; i++) same[i] = i;
      for (int x = 0; x < width; x++) openLine(x);
      numberFaces();
      addAreas();
    }

    private boolean isEnd(int x, int y) {
      for (Piece p : pieces) if (p.endsAt(x, y)) return true;
      return false;
    }

    int nodeAt(int x, int y) {
      for (int i = 0; i < nodes.size(); i++) if (nodes.get(i)[0] == x && nodes.get(i)[1] == y) return i;
      throw new IllegalStateException();
    }

    private void mergeParts(int a, int b) {
      for (int i = 0; i < part.length; i++) if (part[i] == a) part[i] = b;
    }

    int countParts(List<Piece> all) {
      TreeSet<Integer> seen = new TreeSet<>();
      for (Piece p : all) seen.add(part[nodeAt(p.x1, p.y1)]);
      return seen.size();
    }

    /** The pieces that go through the strip from x to x + 1, the lowest first. */
    private List<Piece> strip(int x) {
      List<Piece> through = new ArrayList<>();
      for (Piece p : pieces) if (p.x1 <= x && p.x2 > x) through.add(p);
      through.sort((p, q) -> Integer.compare(p.height(x) + p.height(x + 1), q.height(x) + q.height(x + 1)));
      return through;
    }

    private int cell(int x, int k) { return (x + 1) * MANY + k; }

    private int root(int cell) { return same[cell] == cell ? cell : root(same[cell]); }

    /** The cell of the strip from x to x + 1 that touches the line at a height, which is taken times 2 * SCALE. */
    private int cellBeside(int x, int line, int height2) {
      int k = 0;
      for (Piece p : strip(x)) if (2 * p.height(line) < height2) k++;
      return root(cell(x, k));
    }

    /** Makes cells left and right of the line at x one, wherever no piece parts them. */
    private void openLine(int x) {
      TreeSet<Integer> marks = new TreeSet<>();
      marks.add(-2 * SCALE);
      marks.add(10 * SCALE);
      for (Piece p : pieces) {
        if (p.isUpright() && p.x1 == x) marks.add(p.y1 * SCALE);
        if (p.isUpright() && p.x1 == x) marks.add(p.y2 * SCALE);
        if (!p.isUpright() && p.x1 <= x && x <= p.x2) marks.add(p.height(x));
      }
      for (int from : marks) {
        Integer to = marks.higher(from);
        if (to != null && !isUprightBetween(x, from, to)) {
          same[cellBeside(x - 1, x, from + to)] = cellBeside(x, x, from + to);
        }
      }
    }

    private boolean isUprightBetween(int x, int from, int to) {
      for (Piece p : pieces) if (p.isUpright() && p.isOn(x, from) && p.isOn(x, to)) return true;
      return false;
    }

    int leftOf(Piece p) {
      if (p.isUpright()) return cellBeside(p.x1 - 1, p.x1, (p.y1 + p.y2) * SCALE);
      return root(cell(p.x1, strip(p.x1).indexOf(p) + 1));
    }

    int rightOf(Piece p) {
      if (p.isUpright()) return cellBeside(p.x1, p.x1, (p.y1 + p.y2) * SCALE);
      return root(cell(p.x1, strip(p.x1).indexOf(p)));
    }

    int number(int cell) { return numberOfCell.get(cell); }

    private void numberFaces() {
      TreeMap<Integer, Face> byCell = new TreeMap<>();
      int outside = root(cell(-1, 0));
      byCell.put(outside, new Face());
      for (Piece p : pieces) {
        int from = nodeAt(p.x1, p.y1), to = nodeAt(p.x2, p.y2);
        border(byCell, leftOf(p), from, to);
        border(byCell, rightOf(p), to, from);
      }
      byCell.get(outside).leastWay = -1;
      List<Integer> cells = new ArrayList<>(byCell.keySet());
      cells.sort((a, b) -> Integer.compare(byCell.get(a).leastWay, byCell.get(b).leastWay));
      for (int cell : cells) {
        numberOfCell.put(cell, faces.size());
        faces.add(byCell.get(cell));
      }
    }

    private void border(TreeMap<Integer, Face> byCell, int cell, int from, int to) {
      Face f = byCell.computeIfAbsent(cell, c -> new Face());
      f.ways++;
      f.parts.add(part[from]);
      f.leastWay = Math.min(f.leastWay, from * MANY + to);
    }

    /** Twice the area of a strip's cell is the sum of its two upright sides. */
    private void addAreas() {
      for (int x = 0; x < width; x++) {
        List<Piece> through = strip(x);
        for (int k = 1; k < through.size(); k++) {
          Piece low = through.get(k - 1), high = through.get(k);
          int sides = high.height(x) - low.height(x) + high.height(x + 1) - low.height(x + 1);
          faces.get(number(root(cell(x, k)))).area += sides;
        }
      }
    }

    int locate(int x, int y) {
      int before = 0;
      for (Piece p : pieces) {
        if (p.isOn(x, y * SCALE)) return -1 - before;
        before++;
      }
      return number(cellBeside(x, x, 2 * y * SCALE));
    }

    int between(int f, int g) {
      int found = 0;
      for (Piece p : pieces) {
        int a = number(leftOf(p)), b = number(rightOf(p));
        if (a == f && b == g || a == g && b == f) found++;
      }
      return found;
    }
  }
}
