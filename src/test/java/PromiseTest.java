import java.lang.reflect.Member;
import java.lang.reflect.Method;
import java.lang.reflect.Modifier;
import java.util.TreeSet;

/** Each promise of the document in turn, with answers worked out by hand. */
public final class PromiseTest {
  private static final int[] ODD = {Integer.MIN_VALUE, -500001, -2, -1, 4, 5, 1500, 500001, Integer.MAX_VALUE};
  private static int wrong = 0;
  private static int asked = 0;
  private static String promise = "";

  private static void due(String call, long got, long want) {
    asked++;
    if (got != want) {
      wrong++;
      System.out.println(promise + ": " + call + " answered " + got + ", due is " + want);
    }
  }

  private static void due(String call, boolean got, boolean want) { due(call, got ? 1 : 0, want ? 1 : 0); }

  public static void main(String[] args) {
    publicFace();
    newObject();
    joinAnswers();
    joinClashes();
    joinLimit();
    cutAnswers();
    countAnswers();
    nodeAnswers();
    pieceAnswers();
    leftAnswers();
    faceAnswers();
    faceNumbers();
    areaAnswers();
    locateAnswers();
    locateNested();
    betweenAnswers();
    oddArguments();
    System.out.println(asked + " answers, " + wrong + " are not as due");
    if (wrong != 0) System.exit(1);
  }

  /** Joins x, y, x, y, .. into a closed row of pieces. */
  private static void close(FaceMap m, int... at) {
    for (int i = 0; i < at.length; i += 2) {
      int k = (i + 2) % at.length;
      if (m.join(at[i], at[i + 1], at[k], at[k + 1]) < 1) due("join of a side", 0, 1);
    }
  }

  private static void square(FaceMap m, int x, int y, int side) {
    close(m, x, y, x + side, y, x + side, y + side, x, y + side);
  }

  private static void publicFace() {
    promise = "the public face";
    TreeSet<String> names = new TreeSet<>();
    for (Method m : FaceMap.class.getDeclaredMethods()) if (isVisible(m)) names.add(m.getName());
    due("the methods", names.toString().equals("[area2, between, count, cut, face, join, left, locate, node, piece]"), true);
    due("visible fields", java.util.Arrays.stream(FaceMap.class.getDeclaredFields()).filter(PromiseTest::isVisible).count(), 0);
    due("constructors", FaceMap.class.getDeclaredConstructors().length, 1);
    due("final", Modifier.isFinal(FaceMap.class.getModifiers()), true);
  }

  private static boolean isVisible(Member m) { return !Modifier.isPrivate(m.getModifiers()) && !m.isSynthetic(); }

  private static void newObject() {
    promise = "1 a new object";
    FaceMap m = new FaceMap();
    due("count(0)", m.count(0), 0);
    due("count(1)", m.count(1), 0);
    due("count(2)", m.count(2), 1);
    due("count(3)", m.count(3), 0);
    due("node(0, 0)", m.node(0, 0), 1000000);
    due("piece(0, 0)", m.piece(0, 0), -1);
    due("left", m.left(0, 0, 1, 0), -1);
    due("face(0, 0)", m.face(0, 0), 0);
    due("face(0, 1)", m.face(0, 1), 0);
    due("face(0, 2)", m.face(0, 2), -1);
    due("face(1, 0)", m.face(1, 0), -1);
    due("area2(0)", m.area2(0), 0);
    due("locate(0, 0)", m.locate(0, 0), 0);
    due("between(0, 0)", m.between(0, 0), 0);
    due("between(0, 1)", m.between(0, 1), -1);
    due("cut", m.cut(0, 0, 1, 0), false);
    FaceMap other = new FaceMap();
    other.join(0, 0, 1, 0);
    due("count(1) beside another object", m.count(1), 0);
  }

  private static void joinAnswers() {
    promise = "2 join";
    FaceMap m = new FaceMap();
    due("corner to corner", m.join(-500000, -500000, 500000, 500000), 1);
    due("along the bound", m.join(-500000, -500000, 500000, -500000), 2);
    due("the same again", m.join(-500000, -500000, 500000, 500000), -3);
    due("the same turned round", m.join(500000, 500000, -500000, -500000), -3);
    due("one place", m.join(3, 2, 3, 2), -1);
    due("one place on a piece", m.join(3, 3, 3, 3), -1);
    due("x1 too low", m.join(-500001, 0, 1, 0), -1);
    due("x1 too high", m.join(500001, 0, 1, 0), -1);
    due("y1 too low", m.join(0, -500001, 1, 0), -1);
    due("y1 too high", m.join(0, 500001, 1, 0), -1);
    due("x2 too low", m.join(1, 0, -500001, 0), -1);
    due("x2 too high", m.join(1, 0, 500001, 0), -1);
    due("y2 too low", m.join(1, 0, 0, -500001), -1);
    due("y2 too high", m.join(1, 0, 0, 500001), -1);
    due("out of bounds and across", m.join(-500000, 500000, 500001, -500000), -1);
    due("pieces after all that", m.count(1), 2);
    due("beside the long one", m.join(499999, 499998, 500000, 499999), 3);
    due("a hair from the long one, across it", m.join(-500000, -499999, 500000, 499999), -2);
  }

  private static void joinClashes() {
    promise = "2 join";
    FaceMap m = new FaceMap();
    due("first", m.join(0, 0, 4, 0), 1);
    due("across", m.join(2, -1, 2, 1), -2);
    due("across between whole numbers", m.join(1, -1, 2, 2), -2);
    due("begins on it", m.join(2, 0, 2, 5), -2);
    due("ends on it", m.join(2, -5, 2, 0), -2);
    due("its end inside the new one", m.join(0, -1, 0, 1), -2);
    due("in line, within", m.join(1, 0, 3, 0), -2);
    due("in line, round it", m.join(-1, 0, 5, 0), -2);
    due("in line, part over", m.join(2, 0, 6, 0), -2);
    due("in line, same lesser end, longer", m.join(0, 0, 5, 0), -2);
    due("in line, same lesser end, shorter", m.join(0, 0, 3, 0), -2);
    due("in line, same greater end", m.join(4, 0, -3, 0), -2);
    due("in line, end to end", m.join(4, 0, 6, 0), 2);
    due("in line, apart", m.join(7, 0, 9, 0), 3);
    due("in line, filling the gap", m.join(7, 0, 6, 0), 4);
    due("from an end", m.join(0, 0, 4, 1), 5);
    due("beside it, no touch", m.join(0, 1, 3, 1), 6);
    due("upright", m.join(20, 0, 20, 4), 7);
    due("upright, part over", m.join(20, 2, 20, 6), -2);
    due("upright, same lesser end", m.join(20, 0, 20, 6), -2);
    due("upright, end to end", m.join(20, 4, 20, 6), 8);
    due("ends on an upright one", m.join(18, 3, 20, 3), -2);
    due("across two at a node", m.join(18, 4, 22, 4), -2);
    due("ends at a node", m.join(18, 4, 20, 4), 9);
  }

  private static void joinLimit() {
    promise = "2 join";
    FaceMap m = new FaceMap();
    for (int i = 0; i < 1500; i++) due("comb", m.join(i, 0, i, 5), i + 1);
    due("one too many", m.join(2000, 0, 2000, 5), -12);
    due("out of bounds first", m.join(2000, 0, 2000, 500001), -1);
    due("there first", m.join(7, 5, 7, 0), -3);
    due("clash first", m.join(-1, 2, 1, 2), -2);
    due("count(2)", m.count(2), 1);
    due("count(3)", m.count(3), 1500);
    due("cut", m.cut(0, 0, 0, 5), true);
    due("room again", m.join(0, 0, 1, 0), 1500);
    due("count(3)", m.count(3), 1499);
  }

  private static void cutAnswers() {
    promise = "3 cut";
    FaceMap m = new FaceMap();
    square(m, 0, 0, 10);
    due("no such piece", m.cut(0, 0, 10, 10), false);
    due("part of a piece", m.cut(0, 0, 5, 0), false);
    due("one place", m.cut(0, 0, 0, 0), false);
    due("out of bounds", m.cut(0, 0, 500001, 0), false);
    due("count(1)", m.count(1), 4);
    due("turned round", m.cut(10, 0, 0, 0), true);
    due("again", m.cut(0, 0, 10, 0), false);
    due("count(1)", m.count(1), 3);
    due("count(2)", m.count(2), 1);
    due("count(0)", m.count(0), 4);
    due("the next side", m.cut(10, 0, 10, 10), true);
    due("its end is no node", m.count(0), 3);
    due("node(2, 2)", m.node(2, 2), 1);
    due("locate of the old node", m.locate(10, 0), 0);
    due("cut", m.cut(0, 10, 10, 10), true);
    due("cut", m.cut(0, 10, 0, 0), true);
    due("count(0)", m.count(0), 0);
    due("count(3)", m.count(3), 0);
    due("face(0, 0)", m.face(0, 0), 0);
    due("a piece where one was", m.join(0, 0, 20, 0), 1);
  }

  private static void countAnswers() {
    promise = "4 count";
    FaceMap m = new FaceMap();
    square(m, 0, 0, 10);
    square(m, 2, 2, 2);
    m.join(20, 20, 30, 30);
    due("count(0)", m.count(0), 10);
    due("count(1)", m.count(1), 9);
    due("count(2)", m.count(2), 3);
    due("count(3)", m.count(3), 3);
    due("count(4)", m.count(4), -1);
    due("count(-1)", m.count(-1), -1);
    m.join(2, 2, 4, 4);
    due("count(2) with a cross-piece", m.count(2), 4);
    m.join(10, 10, 20, 20);
    due("count(3) with a bridge", m.count(3), 2);
    due("count(2) with a bridge", m.count(2), 4);
  }

  private static void nodeAnswers() {
    promise = "5 node";
    FaceMap m = new FaceMap();
    m.join(5, -7, -3, 9);
    m.join(5, -7, 5, -8);
    m.join(5, -7, 500000, -500000);
    int[][] want = {{-3, 9, 1}, {5, -8, 1}, {5, -7, 3}, {500000, -500000, 1}};
    for (int n = 0; n < want.length; n++)
      for (int what = 0; what < 3; what++) due("node(" + n + ", " + what + ")", m.node(n, what), want[n][what]);
    due("node(4, 0)", m.node(4, 0), 1000000);
    due("node(-1, 0)", m.node(-1, 0), 1000000);
    due("node(0, 3)", m.node(0, 3), 1000000);
    due("node(0, -1)", m.node(0, -1), 1000000);
    m.cut(5, -7, -3, 9);
    due("node(0, 1) after a cut", m.node(0, 1), -8);
    due("node(1, 2) after a cut", m.node(1, 2), 2);
    due("node(3, 0) after a cut", m.node(3, 0), 1000000);
  }

  private static void pieceAnswers() {
    promise = "6 piece";
    FaceMap m = new FaceMap();
    square(m, 0, 0, 10);
    // Nodes: 0 (0, 0), 1 (0, 10), 2 (10, 0), 3 (10, 10).
    int[][] want = {{0, 1, 0, 1}, {0, 2, 1, 0}, {1, 3, 0, 1}, {2, 3, 1, 0}};
    for (int p = 0; p < want.length; p++)
      for (int what = 0; what < 4; what++) due("piece(" + p + ", " + what + ")", m.piece(p, what), want[p][what]);
    due("piece(4, 0)", m.piece(4, 0), -1);
    due("piece(-1, 0)", m.piece(-1, 0), -1);
    due("piece(0, 4)", m.piece(0, 4), -1);
    due("piece(0, -1)", m.piece(0, -1), -1);
    m.join(0, 10, 10, 0);
    // Piece 2 is now the new one, from node 1 to node 2: below it face 1, above it face 2.
    due("piece(2, 0)", m.piece(2, 0), 1);
    due("piece(2, 1)", m.piece(2, 1), 2);
    due("piece(2, 2)", m.piece(2, 2), 2);
    due("piece(2, 3)", m.piece(2, 3), 1);
    due("piece(3, 1)", m.piece(3, 1), 3);
  }

  private static void leftAnswers() {
    promise = "7 left";
    FaceMap m = new FaceMap();
    square(m, 0, 0, 10);
    m.join(0, 0, 4, 4);
    m.join(10, 10, 14, 14);
    due("along a side", m.left(10, 0, 10, 10), 1);
    due("against it", m.left(10, 10, 10, 0), 0);
    due("a dead end within", m.left(0, 0, 4, 4), 1);
    due("back from it", m.left(4, 4, 0, 0), 1);
    due("a dead end without", m.left(10, 10, 14, 14), 0);
    due("back from it", m.left(14, 14, 10, 10), 0);
    due("no piece", m.left(0, 0, 10, 10), -1);
    due("part of a piece", m.left(0, 0, 2, 2), -1);
    due("one place", m.left(0, 0, 0, 0), -1);
    due("out of bounds", m.left(0, 0, 0, 500001), -1);
    m.cut(0, 0, 10, 0);
    due("after a cut", m.left(10, 0, 10, 10), 0);
  }

  private static void faceAnswers() {
    promise = "8 face";
    FaceMap m = new FaceMap();
    square(m, 0, 0, 10);
    m.join(2, 2, 4, 2);
    m.join(4, 2, 4, 4);
    square(m, 6, 6, 2);
    m.join(10, 10, 12, 12);
    due("rings of the outside", m.face(0, 0), 1);
    due("ways of the outside", m.face(0, 1), 6);
    due("key of the outside, from", m.face(0, 2), -1);
    due("key of the outside, to", m.face(0, 3), -1);
    due("rings with two islands", m.face(1, 0), 3);
    due("ways with two islands", m.face(1, 1), 12);
    due("key of 1, from", m.face(1, 2), 0);
    due("key of 1, to", m.face(1, 3), m.count(0) - 3);
    due("rings of the island", m.face(2, 0), 1);
    due("ways of the island", m.face(2, 1), 4);
    due("key of 2, from", m.face(2, 2), 5);
    due("key of 2, to", m.face(2, 3), 7);
    due("face(1, 4)", m.face(1, 4), -1);
    due("face(0, -1)", m.face(0, -1), -1);
    due("face(3, 0)", m.face(3, 0), -1);
    due("face(-1, 0)", m.face(-1, 0), -1);
    m.join(0, 0, 2, 2);
    due("rings after a bridge", m.face(1, 0), 2);
    due("ways after a bridge", m.face(1, 1), 14);
    due("the key goes along the bridge", m.face(1, 3), 2);
  }

  private static void faceNumbers() {
    promise = "8 face";
    FaceMap m = new FaceMap();
    // Four triangles round the place (0, 0): the keys begin at the least corner of each.
    square(m, -5, -5, 10);
    m.join(0, 0, -5, -5);
    m.join(0, 0, 5, 5);
    m.join(0, 0, -5, 5);
    m.join(0, 0, 5, -5);
    due("count(2)", m.count(2), 5);
    due("left triangle", m.locate(-3, 0), 1);
    due("lower triangle", m.locate(0, -3), 2);
    due("upper triangle", m.locate(0, 3), 3);
    due("right triangle", m.locate(3, 0), 4);
    due("key of 1", m.face(1, 2) * 10 + m.face(1, 3), 2);
    due("key of 2", m.face(2, 2) * 10 + m.face(2, 3), 3);
    due("key of 3", m.face(3, 2) * 10 + m.face(3, 3), 12);
    due("key of 4", m.face(4, 2) * 10 + m.face(4, 3), 23);
  }

  private static void areaAnswers() {
    promise = "9 area2";
    FaceMap m = new FaceMap();
    square(m, -500000, -500000, 1000000);
    square(m, 0, 0, 10);
    close(m, 3, 3, 5, 3, 4, 6);
    m.join(100, 100, 200, 150);
    due("the whole field less an island", m.area2(1), 2000000000000L - 200);
    due("the island less its island", m.area2(2), 200 - 6);
    due("the innermost", m.area2(3), 6);
    due("the outside", m.area2(0), 0);
    due("none", m.area2(4), 0);
    due("none", m.area2(-1), 0);
    close(m, -500000, -500000, -400000, -499000, -499000, -400000);
    // The field's rim now goes round the triangle too, and leaves the corner along the triangle's steeper side.
    due("the field without a triangle in its corner", m.area2(1), 2000000000000L - 200 - 9999000000L);
    due("that triangle", m.area2(2), 100000L * 100000 - 1000L * 1000);
  }

  private static void locateAnswers() {
    promise = "10 locate";
    FaceMap m = new FaceMap();
    square(m, 0, 0, 10);
    due("within", m.locate(9, 1), 1);
    due("left of it", m.locate(-1, 5), 0);
    due("over it", m.locate(5, 11), 0);
    due("over its upright side", m.locate(10, 11), 0);
    due("under its upright side", m.locate(0, -1), 0);
    due("node of pieces 0 and 1", m.locate(0, 0), -1);
    due("node of pieces 0 and 2", m.locate(0, 10), -1);
    due("node of pieces 1 and 3", m.locate(10, 0), -2);
    due("node of pieces 2 and 3", m.locate(10, 10), -3);
    due("on piece 1", m.locate(5, 0), -2);
    due("on piece 2", m.locate(5, 10), -3);
    due("on piece 3", m.locate(10, 5), -4);
    due("out of bounds", m.locate(500001, 0), 0);
    due("out of bounds", m.locate(5, -500001), 0);
    FaceMap far = new FaceMap();
    close(far, -500000, -500000, 500000, 499999, 500000, 500000);
    due("on the long side", far.locate(0, 0), -2);
    due("over it", far.locate(-1, 0), 0);
    due("a hair below the sliver", far.locate(499999, 499998), 0);
    due("at the bound", far.locate(500000, 500000), -2);
  }

  private static void locateNested() {
    promise = "10 locate";
    FaceMap m = new FaceMap();
    for (int k = 0; k < 6; k++) square(m, k, k, 20 - 2 * k);
    for (int k = 0; k < 5; k++) due("rings of " + k, m.face(k + 1, 0), 2);
    m.join(9, 9, 10, 10);
    due("count(3)", m.count(3), 7);
    due("innermost, beside the dead end", m.locate(9, 10), 6);
    m.cut(5, 5, 5, 15);
    due("the innermost is open", m.locate(9, 10), 5);
    due("left of the dead end", m.left(9, 9, 10, 10), 5);
    due("rings of 5", m.face(5, 0), 3);
    m.cut(0, 0, 20, 0);
    due("the outermost is open", m.locate(9, 10), 4);
    due("on the upper side of the second", m.locate(10, 19), -1 - 4);
    due("rings of the outside", m.face(0, 0), 2);
  }

  private static void betweenAnswers() {
    promise = "11 between";
    FaceMap m = new FaceMap();
    square(m, 0, 0, 10);
    m.join(0, 0, 10, 10);
    m.join(10, 10, 14, 14);
    m.join(2, 1, 3, 1);
    due("the lower half", m.locate(9, 1), 1);
    due("the upper half", m.locate(1, 9), 2);
    due("between(1, 2)", m.between(1, 2), 1);
    due("between(2, 1)", m.between(2, 1), 1);
    due("between(0, 1)", m.between(0, 1), 2);
    due("between(2, 0)", m.between(2, 0), 2);
    due("between(0, 0)", m.between(0, 0), 1);
    due("between(1, 1)", m.between(1, 1), 1);
    due("between(2, 2)", m.between(2, 2), 0);
    due("between(0, 3)", m.between(0, 3), -1);
    due("between(3, 0)", m.between(3, 0), -1);
    due("between(-1, 0)", m.between(-1, 0), -1);
    due("between(0, -1)", m.between(0, -1), -1);
    due("between(3, 3)", m.between(3, 3), -1);
  }

  private static void oddArguments() {
    promise = "wrong inputs";
    FaceMap m = new FaceMap();
    square(m, 0, 0, 10);
    for (int a : ODD) {
      due("count(" + a + ")", m.count(a), -1);
      due("node(0, " + a + ")", m.node(0, a), 1000000);
      due("piece(0, " + a + ")", m.piece(0, a), -1);
      due("face(0, " + a + ")", m.face(0, a), -1);
      due("node(" + a + ", 0)", m.node(a, 0), 1000000);
      due("piece(" + a + ", 0)", m.piece(a, 0), -1);
      due("piece(" + a + ", 2)", m.piece(a, 2), -1);
      due("face(" + a + ", 0)", m.face(a, 0), -1);
      due("area2(" + a + ")", m.area2(a), 0);
      due("between(" + a + ", 0)", m.between(a, 0), -1);
      due("between(0, " + a + ")", m.between(0, a), -1);
      due("left", m.left(a, 3, 0, 0), -1);
      due("left", m.left(0, 0, 3, a), -1);
      due("cut", m.cut(a, 3, 0, 0), false);
    }
    for (int a : new int[] {Integer.MIN_VALUE, -500001, 500001, Integer.MAX_VALUE}) {
      due("locate(" + a + ", 5)", m.locate(a, 5), 0);
      due("locate(5, " + a + ")", m.locate(5, a), 0);
      due("join", m.join(a, 3, 0, 0), -1);
      due("join", m.join(0, 0, 3, a), -1);
    }
    due("count(1)", m.count(1), 4);
  }
}
