import java.util.ArrayList;
import java.util.List;

/**
 * The boundary cases of the document, sentence by sentence: too small, too large, empty, full, wrapping round, refused.
 * Each sentence, or clause of one, that names such a case is quoted and has a method of its own, with answers worked out
 * by hand, or compared with those of a second object. No object gets more than 512 calls, but where 1500 pieces are
 * wanted.
 */
public final class BoundaryTest {
  private static final int LEAST = -500000;
  private static final int MOST = 500000;
  private static final int[] OUT = {LEAST - 1, MOST + 1, Integer.MIN_VALUE, Integer.MAX_VALUE};
  /** How far the second number of a place reaches before it could be taken for the next first number. */
  private static final int Y_TURN = 1 << 20;
  private static int wrong = 0;
  private static int asked = 0;
  private static int sentences = 0;
  private static int askedBefore = 0;
  private static String sentence = "";

  public static void main(String[] args) {
    wholeLife();
    placesAreBounded();
    lesserPlace();
    atMost1500();
    unlikeEnds();
    noPlaceInCommon();
    nodesFromZero();
    piecesFromZero();
    facesAreConnected();
    leftOfEachWay();
    ringsTurnRight();
    areaOfRings();
    outsideIsZero();
    oneRimEach();
    keyIsLeastWay();
    facesFromOne();
    partsByEnds();
    newObjectIsEmpty();
    joinCounts();
    joinFirstThatHolds();
    joinRefusedChangesNothing();
    cutGoes();
    cutNone();
    countEach();
    countOther();
    nodeEach();
    nodeNone();
    pieceEach();
    pieceNone();
    leftEach();
    leftNone();
    faceEach();
    faceOutsideKey();
    faceNone();
    areaEach();
    areaOutsideOrNone();
    locateFace();
    locateOutOfBounds();
    locateOnPiece();
    betweenUnlike();
    betweenSame();
    betweenNone();
    sentence("the end");
    System.out.println(sentences - 1 + " sentences, " + asked + " answers, " + wrong + " are not as due");
    if (wrong != 0) System.exit(1);
  }

  private static void sentence(String words) {
    if (sentences > 0 && asked == askedBefore) {
      wrong++;
      System.out.println("nothing was asked of: " + sentence);
    }
    sentences++;
    askedBefore = asked;
    sentence = words;
  }

  private static void due(String call, long got, long want) {
    asked++;
    if (got != want) {
      wrong++;
      System.out.println("[" + sentence + "] " + call + " answered " + got + ", due is " + want);
    }
  }

  private static void due(String call, boolean got, boolean want) { due(call, got ? 1 : 0, want ? 1 : 0); }

  /** A map of open or closed rows of pieces; each row is x, y, x, y, .. */
  private static FaceMap rows(int[]... rows) {
    FaceMap m = new FaceMap();
    for (int[] r : rows) {
      for (int i = 0; i + 3 < r.length; i += 2) {
        if (m.join(r[i], r[i + 1], r[i + 2], r[i + 3]) < 1) due("join of a row", 0, 1);
      }
    }
    return m;
  }

  private static int[] row(int... at) { return at; }

  private static int[] square(int x, int y, int side) {
    return row(x, y, x + side, y, x + side, y + side, x, y + side, x, y);
  }

  /** Every answer that a small map gives, in a fixed order. */
  private static List<Long> answers(FaceMap m) {
    List<Long> all = new ArrayList<>();
    for (int what = 0; what < 4; what++) all.add((long) m.count(what));
    for (int n = 0; n <= m.count(0); n++) for (int what = 0; what < 3; what++) all.add((long) m.node(n, what));
    for (int p = 0; p <= m.count(1); p++) for (int what = 0; what < 4; what++) all.add((long) m.piece(p, what));
    for (int f = 0; f <= m.count(2); f++) {
      for (int what = 0; what < 4; what++) all.add((long) m.face(f, what));
      for (int g = 0; g <= m.count(2); g++) all.add((long) m.between(f, g));
      all.add(m.area2(f));
    }
    for (int x = -1; x <= 11; x += 2) for (int y = -1; y <= 11; y += 2) all.add((long) m.locate(x, y));
    return all;
  }

  // ---- What it is

  private static void wholeLife() {
    sentence("What it is: An object is used for at most 512 calls after it has been made");
    FaceMap joined = new FaceMap();
    for (int i = 0; i < 512; i++) due("join " + (i + 1), joined.join(-i, i, -i - 1, i), i + 1);
    // A fence: 170 uprights, and rails over and under them; 511 pieces, then one question.
    FaceMap fence = new FaceMap();
    fence.join(0, 0, 0, 1);
    int made = 1;
    for (int i = 1; made < 511; i++) {
      fence.join(i - 1, 0, i, 0);
      fence.join(i - 1, 1, i, 1);
      fence.join(i, 0, i, 1);
      made += 3;
    }
    due("call 512 of a fence of 511 pieces", made == 511 ? fence.count(2) : 0, 511 / 3 + 1);
    FaceMap mixed = new FaceMap();
    for (int i = 0; i < 256; i++) {
      due("join " + i, mixed.join(-i, 5, -i, 7), i + 1);
      due("count(3) after it", mixed.count(3), i + 1);
    }
    FaceMap toAndFro = new FaceMap();
    for (int i = 0; i < 128; i++) {
      due("join", toAndFro.join(3, 3, 4, 4), 1);
      due("face(0, 1)", toAndFro.face(0, 1), 2);
      due("cut", toAndFro.cut(4, 4, 3, 3), true);
      due("face(0, 1)", toAndFro.face(0, 1), 0);
    }
  }

  // ---- Terms

  private static void placesAreBounded() {
    sentence("Terms: PLACES have x and y from -500000 to 500000.");
    FaceMap m = new FaceMap();
    due("x least", m.join(LEAST, 0, LEAST, 1), 1);
    due("x most", m.join(MOST, 0, MOST, 1), 2);
    due("y least", m.join(0, LEAST, 1, LEAST), 3);
    due("y most", m.join(0, MOST, 1, MOST), 4);
    due("least corner to most", m.join(LEAST, LEAST, MOST, MOST), 5);
    for (int out : OUT) {
      due("x1 " + out, m.join(out, 7, 3, 9), -1);
      due("y1 " + out, m.join(7, out, 3, 9), -1);
      due("x2 " + out, m.join(3, 9, out, 7), -1);
      due("y2 " + out, m.join(3, 9, 7, out), -1);
    }
    due("node(0, 0)", m.node(0, 0), LEAST);
    due("node(0, 1)", m.node(0, 1), LEAST);
    due("node(9, 0)", m.node(9, 0), MOST);
    due("node(9, 1)", m.node(9, 1), MOST);
    due("y so large that it could be taken for the next x", m.join(0, 5 + Y_TURN, 0, 6 + Y_TURN), -1);
  }

  private static void lesserPlace() {
    sentence("Terms: Of two the LESSER has the lesser x, of equal ones the lesser y.");
    FaceMap m = rows(row(0, 1, 1, -5), row(0, 0, LEAST, MOST), row(0, -1, LEAST + 1, LEAST), row(MOST, MOST, MOST, LEAST));
    int[][] want = {{LEAST, MOST}, {LEAST + 1, LEAST}, {0, -1}, {0, 0}, {0, 1}, {1, -5}, {MOST, LEAST}, {MOST, MOST}};
    for (int n = 0; n < want.length; n++) {
      due("x of node " + n, m.node(n, 0), want[n][0]);
      due("y of node " + n, m.node(n, 1), want[n][1]);
    }
  }

  private static void atMost1500() {
    sentence("Terms: There are PIECES, at most 1500");
    FaceMap m = new FaceMap();
    for (int i = 0; i < 1499; i++) m.join(i, 0, i + 1, 0);
    due("pieces, one less than full", m.count(1), 1499);
    due("the last that goes in", m.join(1499, 0, 1500, 0), 1500);
    due("one too many", m.join(1500, 0, 1501, 0), -12);
    due("one too many, apart", m.join(0, 7, 0, 9), -12);
    due("pieces", m.count(1), 1500);
    due("nodes", m.count(0), 1501);
    due("ways of the outside", m.face(0, 1), 3000);
    due("the last piece", m.piece(1499, 1), 1500);
    due("none behind it", m.piece(1500, 1), -1);
    due("on the last piece", m.locate(1500, 0), -1500);
    due("cut", m.cut(700, 0, 701, 0), true);
    due("parts", m.count(3), 2);
    due("room for one again", m.join(1500, 0, 1500, 1), 1500);
    due("and no more", m.join(700, 0, 701, 0), -12);
  }

  private static void unlikeEnds() {
    sentence("Terms: each between two unlike places, its ends");
    FaceMap m = new FaceMap();
    due("no length", m.join(4, 4, 4, 4), -1);
    due("no length, at the bound", m.join(MOST, LEAST, MOST, LEAST), -1);
    due("one step in x", m.join(4, 4, 5, 4), 1);
    due("one step in y", m.join(4, 4, 4, 5), 2);
    due("x and y changed round", m.join(9, 8, 8, 9), 3);
    due("no length, at a node", m.join(4, 4, 4, 4), -1);
    due("pieces", m.count(1), 3);
  }

  private static void noPlaceInCommon() {
    sentence("Terms: two pieces have no place in common but one that is an end of both.");
    FaceMap m = rows(row(LEAST, LEAST, MOST, MOST - 1));
    due("from its least end", m.join(LEAST, LEAST, MOST, MOST), 2);
    due("to its greatest end", m.join(MOST, MOST - 1, MOST, MOST), 3);
    due("begins within the other long one", m.join(MOST - 1, MOST - 1, MOST, LEAST), -2);
    due("beside it by less than a step", m.join(0, -1, 1, 0), 4);
    due("across it by less than a step", m.join(-2, -3, 2, 2), -2);
    FaceMap t = rows(row(0, 0, 6, 4), row(50, 0, 50, 9), row(60, 5, 69, 5));
    due("touches at a whole-number place within", t.join(3, 2, 3, 9), -2);
    due("crosses between whole-number places", t.join(2, 2, 3, 1), -2);
    due("its end lies within the new one", t.join(-3, -2, 3, 2), -2);
    due("an upright one is touched", t.join(50, 1, 55, 1), -2);
    due("an upright one is crossed", t.join(49, 8, 51, 8), -2);
    due("a level one is touched", t.join(68, 5, 68, 0), -2);
    due("in line and over the whole", t.join(60, 5, 70, 5), -2);
    due("in line and upright, part", t.join(50, 8, 50, 10), -2);
    due("past its end by one", t.join(49, 10, 51, 10), 4);
    due("at its end", t.join(50, 9, 55, 9), 5);
    due("in line from its end", t.join(6, 4, 9, 6), 6);
    due("in line from its other end", t.join(-3, -2, 0, 0), 7);
    // Both differences are 65536 or more, so that a product in 32 bits would be 0 or change its sign.
    FaceMap w = rows(row(0, 0, 65536, 0), row(200000, -200000, 200000, 200000));
    due("not in line, though 65536 * 65536 wraps to 0", w.join(100, 65536, 65636, 65536), 3);
    due("across by far", w.join(150000, -50000, 450000, 100000), -2);
    due("near by far", w.join(200001, 200000, MOST, LEAST), 4);
  }

  private static void nodesFromZero() {
    sentence("Terms: NODES are the ends of pieces, numbered from 0, the lesser first");
    FaceMap m = rows(row(5, 5, 9, 5), row(5, 5, 1, 5), row(5, 5, 5, 9), row(5, 5, 5, 1));
    due("one node where four pieces end", m.count(0), 5);
    int[][] want = {{1, 5}, {5, 1}, {5, 5}, {5, 9}, {9, 5}};
    for (int n = 0; n < 5; n++) due("node " + n, m.node(n, 0) * 10 + m.node(n, 1), want[n][0] * 10 + want[n][1]);
    due("none before the first", m.node(-1, 0), 1000000);
    due("none behind the last", m.node(5, 0), 1000000);
    m.cut(5, 5, 1, 5);
    due("the lesser one gone, all move up", m.node(0, 1), 1);
    due("the node of the rest stays", m.node(1, 2), 3);
  }

  private static void piecesFromZero() {
    sentence("Terms: pieces are numbered from 0 by their lesser node, then the other one.");
    FaceMap m = rows(row(2, 0, 9, 9), row(2, 0, 9, -9), row(9, 0, 2, 0), row(2, 5, 2, 0), row(1, 9, 2, 5), row(0, -9, 9, -9));
    // Nodes: 0 (0, -9), 1 (1, 9), 2 (2, 0), 3 (2, 5), 4 (9, -9), 5 (9, 0), 6 (9, 9).
    int[][] want = {{0, 4}, {1, 3}, {2, 3}, {2, 4}, {2, 5}, {2, 6}};
    for (int p = 0; p < want.length; p++) {
      due("lesser node of " + p, m.piece(p, 0), want[p][0]);
      due("other node of " + p, m.piece(p, 1), want[p][1]);
    }
    due("none behind the last", m.piece(6, 0), -1);
    m.cut(0, -9, 9, -9);
    due("the first gone, all move up", m.piece(0, 0) * 10 + m.piece(0, 1), 2);
    due("none behind the last now", m.piece(5, 0), -1);
  }

  private static void facesAreConnected() {
    sentence("Terms: FACES are what pieces leave of the plane, connected.");
    FaceMap open = rows(row(0, 0, 10, 0, 10, 10, 0, 10));
    due("a square but for one side", open.count(2), 1);
    due("its inside is outside", open.locate(5, 5), 0);
    due("the last side", open.join(0, 10, 0, 0), 4);
    due("closed", open.count(2), 2);
    due("its inside", open.locate(5, 5), 1);
    open.join(10, 10, 11, 11);
    open.join(0, 0, 5, 4);
    due("dead ends divide nothing", open.count(2), 2);
    due("a gap of a step divides nothing", open.join(5, 5, 10, 10), 7);
    due("a gap of a step divides nothing", open.count(2), 2);
    open.join(5, 4, 5, 5);
    due("the gap is closed", open.count(2), 3);
    FaceMap corner = rows(row(0, 0, 4, 0, 4, 4, 0, 4, 0, 0), row(4, 4, 8, 4, 8, 8, 4, 8, 4, 4));
    due("insides that touch at a place are two", corner.count(2), 3);
    due("one", corner.locate(2, 2), 1);
    due("the other", corner.locate(6, 6), 2);
    FaceMap pinch = rows(square(0, 0, 8), row(0, 0, 4, 4, 8, 0), row(0, 8, 4, 4));
    due("right and upper are one, round the middle", pinch.locate(6, 7), pinch.locate(7, 6));
    due("left and lower are not", pinch.locate(1, 4) == pinch.locate(4, 1), false);
    due("faces", pinch.count(2), 4);
  }

  private static void leftOfEachWay() {
    sentence("Terms: To the left of each way along a piece lies a face.");
    FaceMap m = rows(row(0, 0, 4, 0, 0, 3, 0, 0), row(1, 1, 1, 1 + 1), row(0, 0, -4, 0));
    due("within", m.left(4, 0, 0, 3), 1);
    due("without", m.left(0, 3, 4, 0), 0);
    due("an island, up", m.left(1, 1, 1, 2), 1);
    due("an island, down", m.left(1, 2, 1, 1), 1);
    due("a dead end without, in", m.left(-4, 0, 0, 0), 0);
    due("a dead end without, out", m.left(0, 0, -4, 0), 0);
    FaceMap alone = rows(row(LEAST, MOST, MOST, LEAST));
    due("alone, forth", alone.left(LEAST, MOST, MOST, LEAST), 0);
    due("alone, back", alone.left(MOST, LEAST, LEAST, MOST), 0);
  }

  private static void ringsTurnRight() {
    sentence("Terms: A RING of a face is a row of ways .. each next one the first to the right, turning from the way back");
    FaceMap one = rows(row(0, 0, 5, 0));
    due("one piece: the way back is all there is", one.face(0, 1), 2);
    due("one ring", one.face(0, 0), 1);
    FaceMap line = rows(row(0, 0, 5, 0, 9, 0, 12, 0));
    due("straight on", line.face(0, 1), 6);
    due("straight on, one ring", line.face(0, 0), 1);
    FaceMap star = rows(row(0, 0, 5, 0), row(0, 0, -5, 0), row(0, 0, 0, 5), row(0, 0, 0, -5), row(0, 0, 5, 5),
        row(0, 0, -5, 5), row(0, 0, 5, -5), row(0, 0, -5, -5));
    due("a star: each way and back", star.face(0, 1), 16);
    due("a star: one ring", star.face(0, 0), 1);
    star.join(5, 0, 5, 5);
    star.join(5, -5, 5, 0);
    star.join(-5, -5, -5, 0);
    due("three of its corners closed", star.count(2), 4);
    for (int f = 1; f < 4; f++) due("each with three ways", star.face(f, 1), 3);
    due("the outside has the rest", star.face(0, 1), 22 - 9);
    FaceMap knot = rows(row(0, 0, 4, 0, 4, 4, 0, 4, 0, 0), row(4, 4, 8, 4, 8, 8, 4, 8, 4, 4));
    due("two squares at a corner: one ring round both", knot.face(0, 0), 1);
    due("and eight ways", knot.face(0, 1), 8);
    due("one square alone", knot.face(2, 1), 4);
    FaceMap within = rows(square(0, 0, 8), row(8, 8, 5, 6, 6, 5, 8, 8));
    due("a triangle in the corner belongs to the rim", within.face(1, 0), 1);
    due("the rim goes round it", within.face(1, 1), 7);
  }

  private static void areaOfRings() {
    sentence("Terms: AREA2 of a ring is the sum over its ways of x1 y2 - x2 y1.");
    due("least of all", rows(row(3, 3, 4, 3, 3, 4, 3, 3)).area2(1), 1);
    due("far from (0, 0)", rows(row(MOST - 1, MOST, MOST, MOST - 1, MOST, MOST, MOST - 1, MOST)).area2(1), 1);
    due("below and left of (0, 0)", rows(square(LEAST, LEAST, 3)).area2(1), 18);
    due("the greatest", rows(square(LEAST, LEAST, 1000000)).area2(1), 2000000000000L);
    due("a multiple of 2 to the 32", rows(row(0, 0, 65536, 0, 65536, 65536, 0, 65536, 0, 0)).area2(1), 8589934592L);
    // 1000000 * 1000000 - 1000000 * 999999
    due("a sliver", rows(row(LEAST, LEAST, MOST, MOST - 1, MOST, MOST, LEAST, LEAST)).area2(1), 1000000);
    FaceMap tree = rows(square(0, 0, 10), row(2, 2, 7, 3, 4, 8), row(7, 3, 8, 8));
    due("a tree within takes nothing", tree.area2(1), 200);
    due("and is a ring", tree.face(1, 0), 2);
  }

  private static void outsideIsZero() {
    sentence("Terms: The OUTSIDE is face 0");
    due("of an empty map", new FaceMap().locate(LEAST, MOST), 0);
    FaceMap all = rows(square(LEAST, LEAST, 1000000));
    due("there though no place lies in it", all.face(0, 0), 1);
    due("left of the way round", all.left(LEAST, LEAST, LEAST, MOST), 0);
    due("faces", all.count(2), 2);
    FaceMap keyed = rows(square(0, 0, 1), square(-9, -9, 1));
    due("beside the least piece", keyed.left(-9, -9, -9, -8), 0);
    due("between two squares", keyed.locate(-4, -4), 0);
  }

  private static void oneRimEach() {
    sentence("Terms: each other face has just one ring with AREA2 above 0, its RIM");
    FaceMap m = rows(square(0, 0, 20), square(2, 2, 3), square(7, 7, 1), row(12, 12, 13, 13), square(10, 2, 5), square(11, 3, 1));
    due("four islands, one rim", m.face(1, 0), 5);
    due("less what the islands take", m.area2(1), 800 - 18 - 2 - 50);
    due("an island with one of its own", m.face(4, 0), 2);
    due("what it has left", m.area2(4), 50 - 2);
    due("rings of the outside", m.face(0, 0), 1);
    // The way up has 70, and the way back -70; then the other way round.
    due("AREA2 of 0 is no rim", rows(row(5, -5, 9, 5)).count(2), 1);
    due("AREA2 of 0 is no rim", rows(row(5, 5, 9, -5)).count(2), 1);
    due("a tree is no rim", rows(row(5, -5, 9, 5, 12, -3), row(9, 5, 20, 20)).count(2), 1);
    due("AREA2 of 1 is one", rows(row(5, -5, 6, -5, 6, -4, 5, -5)).count(2), 2);
    FaceMap outer = rows(square(0, 0, 2), square(5, 0, 2), row(9, 0, 9, 9));
    due("rings of the outside, no rim among them", outer.face(0, 0), 3);
  }

  private static void keyIsLeastWay() {
    sentence("Terms: its KEY is the least way (from, to) along its rim");
    FaceMap m = rows(square(0, 0, 10));
    due("from", m.face(1, 2), 0);
    due("to: the least node goes right, though the one above it is less", m.face(1, 3), 2);
    m.join(0, 0, 3, 4);
    // Nodes: 0 (0, 0), 1 (0, 10), 2 (3, 4), 3 (10, 0), 4 (10, 10).
    due("a dead end on the rim", m.face(1, 3), 2);
    m.join(3, 4, 3, 5);
    m.join(3, 5, 0, 10);
    // Nodes: .. 2 (3, 4), 3 (3, 5), 4 (10, 0), 5 (10, 10). The left face goes 0, 2, 3, 1; the right one 0, 4, 5, 1, 3, 2.
    due("left face", m.face(1, 2) * 10 + m.face(1, 3), 2);
    due("right face", m.face(2, 2) * 10 + m.face(2, 3), 4);
    FaceMap corner = rows(square(0, 0, 10), row(0, 0, 2, 1, 1, 2, 0, 0));
    // Nodes: 0 (0, 0), 1 (0, 10), 2 (1, 2), 3 (2, 1), .. The rim is twice at node 0, and goes on to 4 and to 2.
    due("the rim that is twice at a node", corner.face(1, 2) * 10 + corner.face(1, 3), 2);
    due("it is the greater face", corner.area2(1), 200 - 3);
    due("the triangle comes behind it", corner.face(2, 2) * 10 + corner.face(2, 3), 3);
    FaceMap lesser = rows(square(0, 0, 10), row(-1, 5, -2, 6), row(1, 5, 2, 5));
    due("lesser nodes elsewhere, and islands, have no say", lesser.face(1, 2) * 10 + lesser.face(1, 3), 26);
  }

  private static void facesFromOne() {
    sentence("Terms: faces are numbered from 1 by their keys.");
    FaceMap m = rows(square(30, 0, 5), square(20, 0, 5), square(20, 10, 5));
    due("lesser x", m.locate(21, 1), 1);
    due("equal x, lesser y", m.locate(21, 11), 2);
    due("greater x", m.locate(31, 1), 3);
    m.join(0, 0, 1, 0);
    due("a piece with lesser nodes and no face", m.locate(21, 1), 1);
    m.join(1, 0, 0, 1);
    m.join(0, 1, 0, 0);
    due("a face with a lesser key: the rest move on", m.locate(21, 1), 2);
    m.cut(1, 0, 0, 1);
    due("and back", m.locate(31, 1), 3);
    FaceMap fan = rows(row(0, 0, 1, 9, 2, 7, 3, 4, 4, 0, 0, 0), row(0, 0, 2, 7), row(0, 0, 3, 4));
    // All keys begin at node 0: they go to (2, 7), (3, 4) and (4, 0).
    due("one from node, least to", fan.left(0, 0, 2, 7), 1);
    due("the next", fan.left(0, 0, 3, 4), 2);
    due("the last", fan.left(0, 0, 4, 0), 3);
    FaceMap inner = rows(square(5, 5, 2), square(0, 0, 20));
    due("what lies round has the lesser key", inner.locate(1, 1), 1);
    due("the island", inner.locate(6, 6), 2);
  }

  private static void partsByEnds() {
    sentence("Terms: PARTS are pieces that are connected by ends.");
    FaceMap m = new FaceMap();
    due("none", m.count(3), 0);
    m.join(0, 0, 10, 0);
    due("one piece", m.count(3), 1);
    m.join(0, 1, 10, 1);
    due("two that do not meet", m.count(3), 2);
    m.join(10, 0, 10, 1);
    due("joined by a third", m.count(3), 1);
    m.join(0, 0, 0, 1);
    due("closed", m.count(3), 1);
    m.cut(0, 0, 10, 0);
    due("opened", m.count(3), 1);
    m.cut(0, 1, 10, 1);
    due("fallen apart", m.count(3), 2);
    due("nested ones are not connected", rows(square(0, 0, 9), square(1, 1, 7), square(2, 2, 5)).count(3), 3);
    due("touching at a node are", rows(square(0, 0, 4), square(4, 4, 4), row(8, 8, 9, 9)).count(3), 1);
  }

  // ---- Promise 1

  private static void newObjectIsEmpty() {
    sentence("Promise 1: No pieces: the outside alone.");
    FaceMap used = rows(square(0, 0, 10));
    FaceMap m = new FaceMap();
    due("nodes", m.count(0), 0);
    due("pieces", m.count(1), 0);
    due("faces", m.count(2), 1);
    due("parts", m.count(3), 0);
    due("node(0, 2)", m.node(0, 2), 1000000);
    for (int what = 0; what < 4; what++) due("piece(0, " + what + ")", m.piece(0, what), -1);
    due("left", m.left(0, 0, 10, 0), -1);
    due("rings of the outside", m.face(0, 0), 0);
    due("ways of the outside", m.face(0, 1), 0);
    due("key, from", m.face(0, 2), -1);
    due("key, to", m.face(0, 3), -1);
    due("face(1, 0)", m.face(1, 0), -1);
    due("area2(0)", m.area2(0), 0);
    due("area2(1)", m.area2(1), 0);
    due("locate", m.locate(5, 5), 0);
    due("locate of a node of another object", m.locate(0, 0), 0);
    due("between(0, 0)", m.between(0, 0), 0);
    due("between(1, 1)", m.between(1, 1), -1);
    due("cut", m.cut(0, 0, 10, 0), false);
    due("the other object", used.count(2), 2);
    FaceMap emptied = rows(square(0, 0, 10));
    emptied.count(2);
    emptied.cut(0, 0, 10, 0);
    emptied.cut(10, 0, 10, 10);
    emptied.cut(10, 10, 0, 10);
    emptied.cut(0, 10, 0, 0);
    due("emptied is as new", answers(emptied).equals(answers(m)), true);
  }

  // ---- Promise 2

  private static void joinCounts() {
    sentence("Promise 2: One more piece: how many there are.");
    FaceMap m = new FaceMap();
    due("the first", m.join(0, 0, 1, 1), 1);
    due("the second", m.join(1, 1, 2, 0), 2);
    due("refused", m.join(0, 1, 1, 0), -2);
    due("the third", m.join(2, 0, 0, 0), 3);
    due("cut", m.cut(1, 1, 2, 0), true);
    due("the third again", m.join(7, 7, 8, 8), 3);
    due("the cut one again, turned round", m.join(2, 0, 1, 1), 4);
  }

  private static void joinFirstThatHolds() {
    sentence("Promise 2: First that holds: -1 out of bounds or no two places, -3 it is there, -2 .. , -12 there are 1500.");
    FaceMap m = rows(square(0, 0, 10));
    due("-1 before -2: out of bounds, across a side", m.join(5, 5, MOST + 1, 5), -1);
    due("-1 before -2: one place, within a side", m.join(5, 0, 5, 0), -1);
    due("-1 before -2: one place, at a node", m.join(0, 0, 0, 0), -1);
    due("-1: out of bounds and one place", m.join(MOST + 1, 0, MOST + 1, 0), -1);
    due("-3: it has itself in common", m.join(0, 0, 10, 0), -3);
    due("-3: turned round", m.join(0, 10, 0, 0), -3);
    due("-2: half of one that is there", m.join(0, 0, 5, 0), -2);
    due("-2: twice one that is there", m.join(0, 0, 20, 0), -2);
    due("-2: two at once", m.join(-5, 5, 15, 5), -2);
    due("-2: through a node", m.join(5, -5, 15, 5), -2);
    due("-2: from node to node over a third", rows(row(0, 0, 5, 5), row(5, 5, 9, 5), row(10, 10, 12, 10)).join(0, 0, 10, 10), -2);
    due("nothing holds: from node to node", m.join(0, 0, 10, 10), 5);
    FaceMap full = new FaceMap();
    for (int i = 0; i < 1500; i++) full.join(i, 0, i, 5);
    due("-1 before -12: out of bounds", full.join(0, 0, 0, MOST + 1), -1);
    due("-1 before -12: one place", full.join(-7, 0, -7, 0), -1);
    due("-3 before -12", full.join(1499, 5, 1499, 0), -3);
    due("-2 before -12", full.join(1499, 5, 1499, 1), -2);
    due("-12", full.join(1499, 5, 1499, 6), -12);
  }

  private static void joinRefusedChangesNothing() {
    sentence("Promise 2, not said but meant: a join that is refused changes nothing");
    int[][] refused = {{0, 0, MOST + 1, 0}, {3, 3, 3, 3}, {0, 0, 8, 0}, {8, 0, 0, 0}, {4, 4, 12, 4}, {4, 0, 4, 4}};
    int[] answer = {-1, -1, -3, -3, -2, -2};
    for (int i = 0; i < refused.length; i++) {
      int[] r = refused[i];
      FaceMap m = rows(square(0, 0, 8));
      due("join", m.join(r[0], r[1], r[2], r[3]), answer[i]);
      due("all answers as before, refused " + i, answers(m).equals(answers(rows(square(0, 0, 8)))), true);
      FaceMap late = rows(square(0, 0, 8));
      late.count(2);
      late.join(r[0], r[1], r[2], r[3]);
      due("the same with faces asked before", answers(late).equals(answers(m)), true);
    }
  }

  // ---- Promise 3

  private static void cutGoes() {
    sentence("Promise 3: A piece goes: true");
    FaceMap m = rows(row(LEAST, LEAST, LEAST, MOST, MOST, MOST, LEAST, LEAST));
    due("face before", m.count(2), 2);
    due("the first piece, at the bound", m.cut(LEAST, LEAST, LEAST, MOST), true);
    due("face after", m.count(2), 1);
    due("nodes stay while a piece ends there", m.count(0), 3);
    due("the last piece, turned round", m.cut(MOST, MOST, LEAST, MOST), true);
    due("its node goes", m.count(0), 2);
    due("the only piece", m.cut(LEAST, LEAST, MOST, MOST), true);
    due("no node is left", m.count(0), 0);
    due("no piece is left", m.count(1), 0);
    due("its place is free", m.join(LEAST, MOST, MOST, LEAST), 1);
    FaceMap a = rows(square(0, 0, 10), row(0, 0, 10, 10));
    a.count(2);
    a.cut(10, 10, 0, 0);
    due("all answers as if it had never been", answers(a).equals(answers(rows(square(0, 0, 10)))), true);
  }

  private static void cutNone() {
    sentence("Promise 3: false if there is none.");
    due("in an empty map", new FaceMap().cut(0, 0, 1, 0), false);
    FaceMap m = rows(row(0, 0, 4, 0, 8, 0), row(1, LEAST, 1, -7), row(0, 0, 0, 9));
    due("part of a piece", m.cut(0, 0, 2, 0), false);
    due("two pieces in line", m.cut(0, 0, 8, 0), false);
    due("nodes with no piece between", m.cut(0, 9, 4, 0), false);
    due("one place", m.cut(0, 0, 0, 0), false);
    due("mirrored", m.cut(0, 0, 0, 4), false);
    for (int out : OUT) {
      due("x1 " + out, m.cut(out, 0, 0, 0), false);
      due("y1 " + out, m.cut(0, out, 0, 0), false);
      due("x2 " + out, m.cut(0, 0, out, 0), false);
      due("y2 " + out, m.cut(0, 0, 0, out), false);
    }
    due("y so large that it could be taken for the next x", m.cut(0, LEAST + Y_TURN, 1, -7), false);
    due("nothing went", m.count(1), 4);
    due("one", m.cut(0, 0, 4, 0), true);
    due("the same again", m.cut(0, 0, 4, 0), false);
    due("all others stay", m.count(1), 3);
    FaceMap r = rows(square(0, 0, 8));
    r.cut(0, 0, 8, 8);
    due("a cut that is refused changes nothing", answers(r).equals(answers(rows(square(0, 0, 8)))), true);
  }

  // ---- Promise 4

  private static void countEach() {
    sentence("Promise 4: How many nodes (0), pieces (1), faces (2), parts (3)");
    FaceMap m = new FaceMap();
    int[][] want = {{0, 0, 1, 0}, {2, 1, 1, 1}, {3, 2, 1, 1}, {3, 3, 2, 1}, {5, 4, 2, 2}, {5, 5, 2, 1}, {5, 6, 3, 1}};
    int[][] joins = {null, {0, 0, 9, 0}, {9, 0, 0, 9}, {0, 9, 0, 0}, {1, 1, 3, 2}, {1, 1, 0, 0}, {3, 2, 9, 0}};
    for (int i = 0; i < joins.length; i++) {
      if (joins[i] != null) m.join(joins[i][0], joins[i][1], joins[i][2], joins[i][3]);
      for (int what = 0; what < 4; what++) due("count(" + what + ") of " + i + " pieces", m.count(what), want[i][what]);
    }
    for (int i = joins.length - 1; i > 0; i--) {
      m.cut(joins[i][2], joins[i][3], joins[i][0], joins[i][1]);
      for (int what = 0; what < 4; what++) due("count(" + what + ") back at " + (i - 1), m.count(what), want[i - 1][what]);
    }
  }

  private static void countOther() {
    sentence("Promise 4: -1 for another number.");
    for (FaceMap m : new FaceMap[] {new FaceMap(), rows(square(0, 0, 10))}) {
      for (int what : new int[] {-1, 4, 5, 256, 65536, Integer.MIN_VALUE, Integer.MAX_VALUE}) {
        due("count(" + what + ")", m.count(what), -1);
      }
    }
  }

  // ---- Promise 5

  private static void nodeEach() {
    sentence("Promise 5: Of node n: x (0), y (1), how many pieces end there (2)");
    FaceMap m = rows(row(LEAST, MOST, MOST, LEAST), row(MOST, LEAST, MOST, MOST), row(MOST, MOST, LEAST, MOST));
    int[][] want = {{LEAST, MOST, 2}, {MOST, LEAST, 2}, {MOST, MOST, 2}};
    for (int n = 0; n < 3; n++) {
      for (int what = 0; what < 3; what++) due("node(" + n + ", " + what + ")", m.node(n, what), want[n][what]);
    }
    FaceMap hub = new FaceMap();
    for (int i = 1; i <= 500; i++) hub.join(0, 0, 500, i);
    due("a node of 500 pieces", hub.node(0, 2), 500);
    due("a node of one", hub.node(500, 2), 1);
    due("ways round it", hub.face(0, 1), 1000);
    hub.cut(0, 0, 500, 250);
    due("one piece less", hub.node(0, 2), 499);
    due("numbers behind it move up", hub.node(250, 1), 251);
    due("an x of 0", rows(row(0, 0, 0, 1)).node(0, 0), 0);
  }

  private static void nodeNone() {
    sentence("Promise 5: 1000000 if there is none.");
    FaceMap m = rows(square(0, 0, 10));
    for (int what = 0; what < 3; what++) {
      for (int n : new int[] {-1, 4, 5, 16, 32, Integer.MIN_VALUE, Integer.MAX_VALUE}) {
        due("node(" + n + ", " + what + ")", m.node(n, what), 1000000);
      }
      due("of an empty map", new FaceMap().node(0, what), 1000000);
    }
    for (int what : new int[] {-1, 3, Integer.MIN_VALUE, Integer.MAX_VALUE}) {
      due("node(0, " + what + ")", m.node(0, what), 1000000);
      due("node(9, " + what + ")", m.node(9, what), 1000000);
    }
    m.cut(10, 10, 0, 10);
    m.cut(10, 10, 10, 0);
    due("the last one gone", m.node(3, 2), 1000000);
    due("the one before it", m.node(2, 2), 1);
  }

  // ---- Promise 6

  private static void pieceEach() {
    sentence("Promise 6: Of piece p: its lesser node (0), the other one (1), the face to the left going from that one to this "
        + "(2), to the right (3)");
    // Joined from the greater end, so that the order of the call has no say.
    FaceMap m = rows(row(4, 4, 0, 4, 0, 0, 4, 0, 4, 4), row(4, 4, 0, 0));
    // Keys: the lower half has (0, 2), the upper one (0, 3).
    int[][] want = {{0, 1, 0, 2}, {0, 2, 1, 0}, {0, 3, 2, 1}, {1, 3, 0, 2}, {2, 3, 1, 0}};
    for (int p = 0; p < want.length; p++) {
      for (int what = 0; what < 4; what++) due("piece(" + p + ", " + what + ")", m.piece(p, what), want[p][what]);
    }
    FaceMap dead = rows(square(0, 0, 8), row(0, 0, 2, 3), row(8, 8, 9, 9));
    due("a dead end within, left", dead.piece(1, 2), 1);
    due("a dead end within, right", dead.piece(1, 3), 1);
    due("a dead end without, left", dead.piece(5, 2), 0);
    due("a dead end without, right", dead.piece(5, 3), 0);
    FaceMap upright = rows(row(3, LEAST, 3, MOST));
    due("upright, lesser node", upright.piece(0, 0), 0);
    due("upright, other node", upright.piece(0, 1), 1);
  }

  private static void pieceNone() {
    sentence("Promise 6: -1 if there is none.");
    FaceMap m = rows(square(0, 0, 10));
    for (int what = 0; what < 4; what++) {
      for (int p : new int[] {-1, 4, 5, 8, 16, 1500, Integer.MIN_VALUE, Integer.MAX_VALUE}) {
        due("piece(" + p + ", " + what + ")", m.piece(p, what), -1);
      }
      due("of an empty map", new FaceMap().piece(0, what), -1);
    }
    for (int what : new int[] {-1, 4, Integer.MIN_VALUE, Integer.MAX_VALUE}) {
      due("piece(0, " + what + ")", m.piece(0, what), -1);
      due("piece(4, " + what + ")", m.piece(4, what), -1);
    }
    m.cut(0, 0, 0, 10);
    due("the last one moved up", m.piece(3, 2), -1);
    due("and is there", m.piece(2, 2), 0);
  }

  // ---- Promise 7

  private static void leftEach() {
    sentence("Promise 7: The face to the left of a way along a piece");
    FaceMap m = rows(square(LEAST, LEAST, 1000000), square(0, 0, 10), row(4, 4, 5, 5));
    due("at the bound, within", m.left(LEAST, LEAST, MOST, LEAST), 1);
    due("at the bound, without", m.left(MOST, LEAST, LEAST, LEAST), 0);
    due("upright, up", m.left(MOST, LEAST, MOST, MOST), 1);
    due("upright, down", m.left(LEAST, MOST, LEAST, LEAST), 1);
    due("an island's side, within", m.left(0, 10, 0, 0), 2);
    due("an island's side, without", m.left(0, 0, 0, 10), 1);
    due("an island in the island", m.left(5, 5, 4, 4), 2);
    m.cut(0, 0, 10, 0);
    due("the island opened", m.left(5, 5, 4, 4), 1);
    m.cut(LEAST, LEAST, MOST, LEAST);
    due("all opened", m.left(5, 5, 4, 4), 0);
  }

  private static void leftNone() {
    sentence("Promise 7: -1 if there is no such piece.");
    due("in an empty map", new FaceMap().left(0, 0, 1, 0), -1);
    FaceMap m = rows(row(0, 0, 4, 0, 8, 0), row(1, LEAST, 1, -7));
    due("part of a piece", m.left(0, 0, 3, 0), -1);
    due("two pieces in line", m.left(8, 0, 0, 0), -1);
    due("one place", m.left(4, 0, 4, 0), -1);
    due("nodes with no piece between", m.left(1, -7, 0, 0), -1);
    for (int out : OUT) {
      due("x1 " + out, m.left(out, 0, 0, 0), -1);
      due("y1 " + out, m.left(0, out, 0, 0), -1);
      due("x2 " + out, m.left(0, 0, out, 0), -1);
      due("y2 " + out, m.left(0, 0, 0, out), -1);
    }
    due("y so large that it could be taken for the next x", m.left(0, LEAST + Y_TURN, 1, -7), -1);
    m.cut(0, 0, 4, 0);
    due("cut", m.left(0, 0, 4, 0), -1);
    due("the next one stays", m.left(4, 0, 8, 0), 0);
  }

  // ---- Promise 8

  private static void faceEach() {
    sentence("Promise 8: Of face f: how many rings (0), how many ways along them (1), the from node (2) and the to node (3) of "
        + "its key");
    FaceMap m = rows(row(0, 0, 9, 0, 0, 9, 0, 0), row(1, 1, 3, 1, 1, 3, 1, 1), row(5, 1, 6, 1), row(9, 0, 12, 1));
    // Nodes: 0 (0, 0), 1 (0, 9), 2 (1, 1), 3 (1, 3), 4 (3, 1), 5 (5, 1), 6 (6, 1), 7 (9, 0), 8 (12, 1).
    int[][] want = {{1, 5, -1, -1}, {3, 8, 0, 7}, {1, 3, 2, 4}};
    for (int f = 0; f < 3; f++) {
      for (int what = 0; what < 4; what++) due("face(" + f + ", " + what + ")", m.face(f, what), want[f][what]);
    }
    m.join(3, 1, 5, 1);
    due("two islands made one", m.face(1, 0), 2);
    due("with the bridge counted twice", m.face(1, 1), 10);
    m.join(6, 1, 9, 0);
    due("the island made part of the rim", m.face(1, 0), 1);
    due("ways along it", m.face(1, 1), 12);
    m.cut(0, 0, 0, 9);
    due("opened to the outside", m.face(0, 0), 1);
    due("ways of the outside: all but three of twice nine", m.face(0, 1), 2 * 9 - 3);
    due("the inner one is face 1 now", m.face(1, 3), 4);
  }

  private static void faceOutsideKey() {
    sentence("Promise 8: -1 of the outside");
    for (FaceMap m : new FaceMap[] {new FaceMap(), rows(row(0, 0, 1, 0)), rows(square(0, 0, 10))}) {
      due("face(0, 2)", m.face(0, 2), -1);
      due("face(0, 3)", m.face(0, 3), -1);
    }
    FaceMap opened = rows(square(0, 0, 10));
    opened.count(2);
    opened.cut(0, 0, 10, 0);
    due("rows used again, from", opened.face(0, 2), -1);
    due("rows used again, to", opened.face(0, 3), -1);
  }

  private static void faceNone() {
    sentence("Promise 8: -1 if there is none.");
    FaceMap m = rows(square(0, 0, 10));
    for (int what = 0; what < 4; what++) {
      for (int f : new int[] {-1, 2, 3, 8, 9, 1501, Integer.MIN_VALUE, Integer.MAX_VALUE}) {
        due("face(" + f + ", " + what + ")", m.face(f, what), -1);
      }
      due("of an empty map", new FaceMap().face(1, what), -1);
    }
    for (int what : new int[] {-1, 4, Integer.MIN_VALUE, Integer.MAX_VALUE}) {
      for (int f = -1; f < 3; f++) due("face(" + f + ", " + what + ")", m.face(f, what), -1);
    }
    m.cut(0, 0, 0, 10);
    for (int what = 0; what < 4; what++) due("opened, face(1, " + what + ")", m.face(1, what), -1);
  }

  // ---- Promise 9

  private static void areaEach() {
    sentence("Promise 9: The sum of AREA2 over all rings of a face");
    FaceMap m = rows(square(LEAST, LEAST, 1000000), square(LEAST + 1, LEAST + 1, 999998), row(0, 0, 1, 0, 0, 1, 0, 0));
    due("a frame of one step", m.area2(1), 2000000000000L - 2L * 999998 * 999998);
    due("the field in it less a triangle", m.area2(2), 2L * 999998 * 999998 - 1);
    due("the triangle", m.area2(3), 1);
    m.join(LEAST, LEAST, LEAST + 1, LEAST + 1);
    due("the frame with a bridge: one ring, the same sum", m.area2(1), 2000000000000L - 2L * 999998 * 999998);
    m.cut(0, 0, 1, 0);
    due("the triangle opened", m.area2(2), 2L * 999998 * 999998);
    FaceMap full = rows(square(0, 0, 3), square(1, 1, 1));
    due("nearly filled", full.area2(1), 18 - 2);
  }

  private static void areaOutsideOrNone() {
    sentence("Promise 9: 0 for the outside, or if there is none.");
    due("outside of an empty map", new FaceMap().area2(0), 0);
    due("none in an empty map", new FaceMap().area2(1), 0);
    FaceMap m = rows(square(0, 0, 10), square(20, 0, 10));
    for (int f : new int[] {0, -1, 3, 4, 8, 9, 1501, Integer.MIN_VALUE, Integer.MAX_VALUE}) due("area2(" + f + ")", m.area2(f), 0);
    due("the last", m.area2(2), 200);
    m.cut(20, 0, 30, 0);
    due("the last opened", m.area2(2), 0);
  }

  // ---- Promise 10

  private static void locateFace() {
    sentence("Promise 10: The face in which a place lies");
    FaceMap m = rows(row(LEAST, LEAST, MOST, MOST - 1, MOST, LEAST, LEAST, LEAST));
    due("a hair below the long side", m.locate(MOST - 1, MOST - 2), 1);
    due("a hair over it", m.locate(MOST - 1, MOST - 1), 0);
    due("the corner over it", m.locate(MOST, MOST), 0);
    due("the far corner", m.locate(LEAST, MOST), 0);
    due("in the thin corner, below", m.locate(LEAST + 1, LEAST + 1), 0);
    FaceMap u = rows(row(0, 0, 9, 0, 9, 9, 6, 9, 6, 3, 3, 3, 3, 9, 0, 9, 0, 0));
    due("the left arm", u.locate(1, 8), 1);
    due("between the arms", u.locate(4, 8), 0);
    due("the right arm", u.locate(8, 8), 1);
    due("under the notch", u.locate(4, 2), 1);
    due("over the left arm's side", u.locate(3, 10), 0);
    due("under all", u.locate(3, -1), 0);
    due("left of all, at the height of sides", u.locate(-1, 0), 0);
    due("right of all, at the height of sides", u.locate(10, 9), 0);
    // Straight down from (5, 5) lies a node where two pieces meet, then the rim's own node.
    FaceMap nodes = rows(row(0, 0, 5, -4, 10, 0, 5, 20, 0, 0), row(3, 1, 5, 2, 7, 1));
    due("over a node of an island", nodes.locate(5, 5), 1);
    due("between that node and the rim's", nodes.locate(5, 0), 1);
    due("under the rim's node", nodes.locate(5, -5), 0);
    due("over the rim's node", nodes.locate(5, 21), 0);
    // The island's lower side goes on past the end of the rim's side below it, and under that side's line.
    FaceMap past = rows(row(0, 0, 4, 0, 4, -10, 30, -10, 30, 20, 0, 20, 0, 0), row(1, 1, 20, -5, 20, 10, 1, 1));
    due("in the island, over both", past.locate(3, 1), 2);
    due("under the island, over the rim's side", past.locate(8, -3), 1);
    // Of the two pieces under the place, the island's begins as near over the rim's as whole numbers can.
    FaceMap near = rows(row(0, 0, 3, 2, 10, 0, 10, 10, 0, 10, 0, 0), row(1, 1, 5, 5, 1, 5, 1, 1));
    due("in the island, near the rim", near.locate(2, 3), 2);
    due("right of the island, over the rim", near.locate(4, 3), 1);
    FaceMap least = rows(row(0, 5, 8, 4, 9, 9, 0, 5), row(2, 0, 9, 0), row(3, 1, 9, 1));
    due("the least piece is the next one below", least.locate(4, 5), 1);
    due("the greatest piece is", least.locate(4, 2), 0);
    FaceMap wide = rows(row(0, 0, 65536, 0), row(300000, -300000, 300000, 300000));
    due("not on it, though 65536 * 65536 wraps to 0", wide.locate(5, 65536), 0);
    due("not on it, though 65536 * -65536 wraps to 0", wide.locate(5, -65536), 0);
  }

  private static void locateOutOfBounds() {
    sentence("Promise 10: (out of bounds 0)");
    FaceMap m = rows(square(LEAST, LEAST, 1000000));
    due("within", m.locate(MOST - 1, LEAST + 1), 1);
    for (int out : OUT) {
      due("locate(" + out + ", 0)", m.locate(out, 0), 0);
      due("locate(0, " + out + ")", m.locate(0, out), 0);
      due("locate(" + out + ", " + out + ")", m.locate(out, out), 0);
    }
    due("in line with a side", m.locate(MOST + 1, LEAST), 0);
    due("in line with a side", m.locate(LEAST, LEAST - 1), 0);
    due("y so large that it could be taken for the next x", m.locate(LEAST, Y_TURN), 0);
    due("y so small that it could be taken for the last x", m.locate(MOST, -Y_TURN), 0);
    due("in an empty map", new FaceMap().locate(MOST + 1, MOST + 1), 0);
  }

  private static void locateOnPiece() {
    sentence("Promise 10: -1 less the number of the piece on which it lies, the least of them.");
    FaceMap m = rows(row(5, 5, 9, 5), row(5, 5, 5, 9), row(5, 5, 1, 5), row(5, 5, 5, 1), row(9, 5, 12, 0));
    // Pieces: 0 (1, 5)-(5, 5), 1 (5, 1)-(5, 5), 2 (5, 5)-(5, 9), 3 (5, 5)-(9, 5), 4 (9, 5)-(12, 0).
    due("on piece 0", m.locate(2, 5), -1);
    due("at the free end of piece 0", m.locate(1, 5), -1);
    due("on piece 1", m.locate(5, 3), -2);
    due("on piece 2", m.locate(5, 7), -3);
    due("at the free end of piece 2", m.locate(5, 9), -3);
    due("on piece 3", m.locate(7, 5), -4);
    due("where four meet: the least", m.locate(5, 5), -1);
    due("where 3 and 4 meet: the least", m.locate(9, 5), -4);
    due("at the free end of piece 4", m.locate(12, 0), -5);
    due("on the line of piece 4, past its end", m.locate(15, -5), 0);
    due("on the line of piece 4, before it", m.locate(6, 10), 0);
    due("on the line of the upright ones, past the end", m.locate(5, 10), 0);
    due("beside piece 4", m.locate(10, 4), 0);
    m.cut(5, 5, 1, 5);
    due("the least one cut", m.locate(5, 5), -1);
    due("numbers move up", m.locate(5, 7), -2);
    FaceMap far = rows(row(LEAST, LEAST, MOST, MOST), row(MOST, LEAST, MOST, MOST));
    due("at the least place", far.locate(LEAST, LEAST), -1);
    due("at the greatest", far.locate(MOST, MOST), -1);
    due("in the middle", far.locate(0, 0), -1);
    due("on the bound", far.locate(MOST, 0), -2);
  }

  // ---- Promise 11

  private static void betweenUnlike() {
    sentence("Promise 11: How many pieces have face f on one side and face g on the other");
    FaceMap m = rows(square(0, 0, 4), row(4, 4, 8, 4, 8, 0, 4, 0), row(4, 8, 4, 4), row(9, 9, 10, 9, 9, 10, 9, 9));
    due("a side in common", m.between(1, 2), 1);
    due("the other way round", m.between(2, 1), 1);
    due("with the outside", m.between(0, 1), 3);
    due("with the outside", m.between(2, 0), 3);
    due("nothing in common", m.between(1, 3), 0);
    due("a triangle apart", m.between(3, 0), 3);
    FaceMap corner = rows(square(0, 0, 4), square(4, 4, 4));
    due("a corner is no side", corner.between(1, 2), 0);
    FaceMap island = rows(square(0, 0, 9), square(3, 3, 2));
    due("round an island", island.between(1, 2), 4);
    due("past an island", island.between(0, 2), 0);
    FaceMap hub = new FaceMap();
    for (int i = 0; i < 200; i++) hub.join(i, 0, i + 1, 0);
    hub.join(0, 0, 100, 50);
    hub.join(100, 50, 200, 0);
    hub.join(200, 0, 100, -50);
    hub.join(100, -50, 0, 0);
    due("200 in a row", hub.between(1, 2), 200);
  }

  private static void betweenSame() {
    sentence("Promise 11: (of one face: on both)");
    due("empty", new FaceMap().between(0, 0), 0);
    due("one piece", rows(row(0, 0, 1, 0)).between(0, 0), 1);
    FaceMap m = rows(square(0, 0, 9), row(0, 0, 2, 3, 2, 5), row(4, 4, 5, 4), row(9, 9, 12, 12), square(6, 1, 2));
    due("the outside: its dead end", m.between(0, 0), 1);
    due("a dead end of two and an island", m.between(1, 1), 3);
    due("none", m.between(2, 2), 0);
    m.join(2, 5, 4, 4);
    due("a bridge to the island", m.between(1, 1), 4);
    m.join(5, 4, 9, 9);
    due("divided: none has one face on both sides", m.between(1, 1), 0);
  }

  private static void betweenNone() {
    sentence("Promise 11: -1 if there is no such face.");
    FaceMap empty = new FaceMap();
    due("empty", empty.between(0, 1), -1);
    due("empty", empty.between(1, 0), -1);
    FaceMap m = rows(square(0, 0, 10));
    for (int f : new int[] {-1, 2, 3, 8, 9, 1501, Integer.MIN_VALUE, Integer.MAX_VALUE}) {
      due("between(" + f + ", 0)", m.between(f, 0), -1);
      due("between(1, " + f + ")", m.between(1, f), -1);
      due("between(" + f + ", " + f + ")", m.between(f, f), -1);
    }
    due("both there", m.between(1, 0), 4);
    m.cut(0, 0, 10, 0);
    due("opened", m.between(1, 0), -1);
    due("opened", m.between(0, 0), 3);
  }
}
