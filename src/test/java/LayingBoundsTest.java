/** Term 4, promises 18 to 24 and 38: half-open cells, rounding, empty layers, numbers that there are not. */
public final class LayingBoundsTest {
  private static final int MOST = Integer.MAX_VALUE;
  private static final int LEAST = Integer.MIN_VALUE;
  private static final String SQUARE = "A(0 0,8 0,8 8,0 8,0 0)";

  public static void main(String[] args) {
    rounding();
    corners();
    sides();
    order();
    straightLines();
    pieces();
    emptyLayers();
    withItselfOrNone();
    notLaid();
    numbers();
    atTheBounds();
    faces();
    covers();
    lonePlaces();
    nothingChanges();
    Feeder.finish("LayingBoundsTest");
  }

  private static LandMap laid(String a, String b) {
    LandMap map = new LandMap();
    if (!a.isEmpty()) Feeder.due("read " + a, Feeder.read(map, 0, a) > 0, true);
    if (!b.isEmpty()) Feeder.due("read " + b, Feeder.read(map, 1, b) > 0, true);
    Feeder.due("lay " + a + " " + b, map.lay(0, 1) >= 0, true);
    Feeder.due("strays of " + a + " " + b, map.strays(), 0);
    Feeder.due("hot places of " + a + " " + b, map.laid(3), map.laid(0));
    return map;
  }

  /** The pieces of a map, each as x y-x y, in their order. */
  private static void due(LandMap map, String name, String want) {
    StringBuilder out = new StringBuilder();
    for (int p = 0; p < map.laid(1); p++) {
      int u = map.piece(p, 0);
      int v = map.piece(p, 1);
      out.append(p == 0 ? "" : ", ").append(map.node(u, 0)).append(' ').append(map.node(u, 1)).append(" to ");
      out.append(map.node(v, 0)).append(' ').append(map.node(v, 1));
    }
    boolean same = out.toString().equals(want);
    Feeder.due(name + ": " + out + " for " + want, same, true);
  }

  /** Crossings just at, below and above a half; in each case one hot place more, and where it lies. */
  private static void rounding() {
    due(laid("L(0 0,1 1)", "L(0 1,1 0)"), "a half up, both axes", "0 0 to 1 1, 0 1 to 1 1, 1 0 to 1 1");
    due(laid("L(-1-1,0 0)", "L(-1 0,0-1)"), "minus a half up", "-1 -1 to 0 0, -1 0 to 0 0, 0 -1 to 0 0");
    due(laid("L(-5 0,5 0)", "L(0-1,1 1)"), "a half of x up", "-5 0 to 1 0, 0 -1 to 1 0, 1 0 to 1 1, 1 0 to 5 0");
    due(laid("L(-5 0,5 0)", "L(-1-1,0 1)"), "minus a half of x up",
        "-5 0 to 0 0, -1 -1 to 0 0, 0 0 to 0 1, 0 0 to 5 0");
    due(laid("L(0-5,0 5)", "L(-1 0,1 1)"), "a half of y up", "-1 0 to 0 1, 0 -5 to 0 1, 0 1 to 0 5, 0 1 to 1 1");
    due(laid("L(0-5,0 5)", "L(-1-1,1 0)"), "minus a half of y up", "-1 -1 to 0 0, 0 -5 to 0 0, 0 0 to 0 5, 0 0 to 1 0");
    // (1/3, 0) goes down, (2/3, 0) up; below nothing it is the other way round.
    due(laid("L(-5 0,5 0)", "L(0-1,1 2)"), "a third down", "-5 0 to 0 0, 0 -1 to 0 0, 0 0 to 1 2, 0 0 to 5 0");
    due(laid("L(-5 0,5 0)", "L(0-2,1 1)"), "two thirds up", "-5 0 to 1 0, 0 -2 to 1 0, 1 0 to 1 1, 1 0 to 5 0");
    due(laid("L(-5 0,5 0)", "L(-1-1,0 2)"), "minus two thirds down", "-5 0 to -1 0, -1 -1 to -1 0, -1 0 to 0 2, -1 0 to 5 0");
    due(laid("L(-5 0,5 0)", "L(-1-2,0 1)"), "minus a third up", "-5 0 to 0 0, -1 -2 to 0 0, 0 0 to 0 1, 0 0 to 5 0");
    // (499999.5, 499999.5) and (-499999.5, -499999.5) stay within the bounds.
    due(laid("L(499999 499999,500000 500000)", "L(499999 500000,500000 499999)"), "at the upper bound",
        "499999 499999 to 500000 500000, 499999 500000 to 500000 500000, 500000 499999 to 500000 500000");
    due(laid("L(-500000-500000,-499999-499999)", "L(-500000-499999,-499999-500000)"), "at the lower bound",
        "-500000 -500000 to -499999 -499999, -500000 -499999 to -499999 -499999, -499999 -500000 to -499999 -499999");
    // The widest edges: (1/2, 0) of edges a million long.
    due(laid("L(-500000-500000,500000 500000)", "L(-500000 500000,500000-499999)"), "wide",
        "-500000 -500000 to 0 0, -500000 500000 to 0 0, 0 0 to 500000 -499999, 0 0 to 500000 500000");
  }

  /** A cell has its lower left corner, but none of the other three. */
  private static void corners() {
    due(laid("L(0 1,1 0)", "P(1 1)"), "the lower left corner", "0 1 to 1 1, 1 0 to 1 1");
    due(laid("L(0 1,1 0)", "P(0 0)"), "the upper right corner", "0 1 to 1 0");
    due(laid("L(0 0,1 1)", "P(1 0)"), "the upper left corner", "0 0 to 1 1");
    due(laid("L(0 0,1 1)", "P(0 1)"), "the lower right corner", "0 0 to 1 1");
    due(laid("L(1 0,0 1)", "P(1 1)P(0 0)"), "the other way along", "0 1 to 1 1, 1 0 to 1 1");
    due(laid("L(-3 4,4-3)", "P(1 1)P(0 0)"), "in the midst", "-3 4 to 1 1, 1 1 to 4 -3");
    due(laid("L(-3-3,4 4)", "P(1 0)P(0 1)"), "in the midst", "-3 -3 to 4 4");
    // Through (1/2, 1/2) with slopes of -3, 3, -1/3 and 1/3.
    due(laid("L(0 2,1-1)", "P(1 1)P(0 0)"), "steep down", "0 2 to 1 1, 1 -1 to 1 1");
    due(laid("L(0-1,1 2)", "P(1 0)P(0 1)"), "steep up", "0 -1 to 1 2");
    due(laid("L(-1 1,2 0)", "P(1 1)P(0 0)"), "flat down", "-1 1 to 1 1, 1 1 to 2 0");
    due(laid("L(-1 0,2 1)", "P(1 0)P(0 1)"), "flat up", "-1 0 to 2 1");
  }

  /** An edge that comes to a side of a cell, and just not. */
  private static void sides() {
    due(laid("L(0 0,10 1)", "P(4 0)"), "below a half at x = 4", "0 0 to 4 0, 4 0 to 10 1");
    due(laid("L(0 0,10 1)", "P(5 0)"), "below a half on the way to x = 5", "0 0 to 5 0, 5 0 to 10 1");
    due(laid("L(0 0,10 1)", "P(6 0)"), "never below a half from x = 5.5 on", "0 0 to 10 1");
    due(laid("L(0 0,10 1)", "P(5 1)"), "just a half at x = 5", "0 0 to 5 1, 5 1 to 10 1");
    due(laid("L(0 0,10 1)", "P(4 1)"), "never a half before x = 4.5", "0 0 to 10 1");
    due(laid("L(0 0,10 1)", "P(5 0)P(5 1)"), "both", "0 0 to 5 0, 5 0 to 5 1, 5 1 to 10 1");
    due(laid("L(0 0,1 10)", "P(0 5)"), "left of a half", "0 0 to 0 5, 0 5 to 1 10");
    due(laid("L(0 0,1 10)", "P(0 6)"), "not left of a half", "0 0 to 1 10");
    due(laid("L(0 0,1 10)", "P(1 5)"), "just a half", "0 0 to 1 5, 1 5 to 1 10");
    due(laid("L(0 0,1 10)", "P(1 4)"), "not a half", "0 0 to 1 10");
    // Down from left to right: (5, 0.5) is in the cell of (5, 1), and so is what lies before it.
    due(laid("L(0 1,10 0)", "P(5 1)"), "a half at x = 5", "0 1 to 5 1, 5 1 to 10 0");
    due(laid("L(0 1,10 0)", "P(5 0)"), "below a half behind x = 5", "0 1 to 5 0, 5 0 to 10 0");
    due(laid("L(0 1,10 0)", "P(4 0)"), "not below a half before x = 4.5", "0 1 to 10 0");
    due(laid("L(0 1,10 0)", "P(6 1)"), "below a half from x = 5.5 on", "0 1 to 10 0");
    // Beyond the ends there is nothing of an edge.
    due(laid("L(0 0,4 0)", "P(5 0)P(-1 0)P(2 1)P(2-1)"), "beside and behind", "0 0 to 4 0");
    due(laid("L(0 0,0 4)", "P(0 5)P(0-1)P(1 2)P(-1 2)"), "beside and behind", "0 0 to 0 4");
    due(laid("L(0 0,4 4)", "P(5 5)P(2 1)P(1 2)"), "beside and behind", "0 0 to 4 4");
    due(laid("L(0 0,4 0)", "P(1 0)P(2 0)P(3 0)"), "straight on", "0 0 to 1 0, 1 0 to 2 0, 2 0 to 3 0, 3 0 to 4 0");
  }

  private static void order() {
    // By projections: nodes of one x come in the order along the edge.
    due(laid("L(0 10,2-10)", "P(1 5)P(1 0)P(1-5)"), "down", "0 10 to 1 5, 1 -5 to 1 0, 1 -5 to 2 -10, 1 0 to 1 5");
    due(laid("L(0 0,2 20)", "P(1 14)P(1 6)P(1 10)"), "up", "0 0 to 1 6, 1 6 to 1 10, 1 10 to 1 14, 1 14 to 2 20");
    LandMap map = laid("L(4 0,0 0)L(0 0,4 0,0 0)", "L(2 0,3 0)L(3 0,2 0)");
    due(map, "each two places once", "0 0 to 2 0, 2 0 to 3 0, 3 0 to 4 0");
    int[][] went = {{3, 0}, {3, 2}, {3, 0}};
    for (int p = 0; p < 3; p++) {
      Feeder.due("edges of a", map.piece(p, 4), went[p][0]);
      Feeder.due("edges of b", map.piece(p, 5), went[p][1]);
    }
    Feeder.due("pieces of a", map.laid(4), 3);
    Feeder.due("pieces of b", map.laid(5), 1);
  }

  /** Edges in one straight line have no crossing, but their ends are hot. */
  private static void straightLines() {
    due(laid("L(0 0,6 3)", "L(2 1,10 5)"), "a stretch in common", "0 0 to 2 1, 2 1 to 6 3, 6 3 to 10 5");
    due(laid("L(0 0,3 3)", "L(5 5,9 9)"), "apart", "0 0 to 3 3, 5 5 to 9 9");
    due(laid("L(0 0,3 3)", "L(3 3,9 9)"), "end to end", "0 0 to 3 3, 3 3 to 9 9");
    due(laid("L(0 0,8 0)", "L(0 1,8 1)"), "side by side", "0 0 to 8 0, 0 1 to 8 1");
    due(laid("L(0 0,8 0)", "L(4 0,4 5)"), "an end on an edge", "0 0 to 4 0, 4 0 to 4 5, 4 0 to 8 0");
    due(laid("L(0 0,8 0)", "L(4 1,4 5)"), "just above", "0 0 to 8 0, 4 1 to 4 5");
    due(laid("L(0 0,8 0)", "L(8 0,8 5)"), "at an end", "0 0 to 8 0, 8 0 to 8 5");
  }

  private static void pieces() {
    // Edges that come together in one cell become one piece.
    LandMap map = laid("L(0 0,100 1)L(0 0,100-1)", "P(20 0)");
    due(map, "two edges bent together", "0 0 to 20 0, 20 0 to 100 -1, 20 0 to 100 1");
    Feeder.due("both go along it", map.piece(0, 4), 2);
    Feeder.due("points go nowhere", map.laid(5), 0);
    Feeder.due("pieces at a node", map.node(1, 2), 3);
    Feeder.due("pieces at an end", map.node(0, 2), 1);
    // A thin area is bent shut: no face is left, and nothing is odd.
    LandMap thin = laid("A(0 0,100 1,100-1,0 0)", "P(50 0)");
    due(thin, "shut as far as the point", "0 0 to 50 0, 50 0 to 100 -1, 50 0 to 100 1, 100 -1 to 100 1");
    Feeder.due("one face", thin.laid(2), 2);
    Feeder.due("twice along the first", thin.piece(0, 4), 2);
    Feeder.due("outside to the left", thin.piece(0, 2), 0);
    Feeder.due("outside to the right", thin.piece(0, 3), 0);
    Feeder.due("its area", thin.faceArea2(1), 100);
    Feeder.due("it is covered", thin.face(1, 2), 1);
    LandMap shut = laid("A(0 0,3 1,2 1,0 0)", "");
    due(shut, "two edges and a third", "0 0 to 2 1, 2 1 to 3 1");
    Feeder.due("no face", shut.laid(2), 1);
    Feeder.due("overlay", shut.overlay(5, 0, false), 0);
  }

  private static void emptyLayers() {
    LandMap map = new LandMap();
    Feeder.due("two empty layers", map.lay(3, 7), 0);
    int[] laid = {0, 0, 1, 0, 0, 0};
    for (int what = 0; what < 6; what++) Feeder.due("laid " + what, map.laid(what), laid[what]);
    int[] outside = {0, 0, 0, 0, -1, -1};
    for (int what = 0; what < 6; what++) Feeder.due("face 0 " + what, map.face(0, what), outside[what]);
    Feeder.due("face 1", map.face(1, 0), -3);
    Feeder.due("faceArea2", map.faceArea2(0), 0);
    Feeder.due("locate", map.locate(0, 0), 0);
    Feeder.due("node", map.node(0, 0), 1000000);
    Feeder.due("piece", map.piece(0, 0), -14);
    Feeder.due("strays", map.strays(), 0);
    for (int way = 0; way < 4; way++) Feeder.due("overlay", map.overlay(0, way, way > 1), 0);
    Feeder.due("raster", map.raster(1, 2, 2), 0);
    Feeder.due("all blank", map.rasterSize(0, 2), 0);
    Feeder.due("no road", Feeder.route(map, 0, 0, 0, 0), -1);
    Feeder.due("one empty layer", map.lay(3, -1), 0);
    LandMap half = laid("", SQUARE);
    Feeder.due("of a", half.laid(4), 0);
    Feeder.due("of b", half.laid(5), 4);
    Feeder.due("covered by b", half.face(1, 3), 1);
    Feeder.due("not by a", half.face(1, 2), 0);
    Feeder.due("none of a", half.face(1, 4), -1);
    Feeder.due("the least of b", half.face(1, 5), 0);
  }

  private static String trace(LandMap map) {
    StringBuilder out = new StringBuilder();
    Twins.land(out, map);
    for (int way = 0; way < 4; way++) out.append(map.overlay(5, way, true)).append(' ').append(map.feature(5, 0, 1)).append('\n');
    return out.toString();
  }

  private static void withItselfOrNone() {
    String text = "4:" + SQUARE + "7:A(4 4,12 4,12 12,4 4)2:L(-3 3,20 5)P(2 2)";
    LandMap map = new LandMap();
    Feeder.read(map, 2, text);
    Feeder.due("with none", map.lay(2, -1) > 0, true);
    String none = trace(map);
    Feeder.due("with itself", map.lay(2, 2), map.laid(1));
    Feeder.due("as with none", trace(map).equals(none), true);
    Feeder.due("with an empty layer", map.lay(2, 3), map.laid(1));
    Feeder.due("as with none", trace(map).equals(none), true);
    Feeder.due("no pieces of b", map.laid(5), 0);
    Feeder.due("none covers of b", map.face(1, 3), 0);
    Feeder.due("the least of b", map.face(1, 5), -1);
    // Another layer with the same features is not the layer itself.
    Feeder.read(map, 3, text);
    Feeder.due("with its like", map.lay(2, 3), map.laid(1));
    Feeder.due("pieces of b", map.laid(5), map.laid(4));
    Feeder.due("covers of b", map.face(1, 3), map.face(1, 2));
    Feeder.due("in both", map.overlay(5, 1, false), 1);
    Feeder.due("in one alone", map.overlay(5, 3, false), 0);
  }

  private static void notLaid() {
    LandMap map = new LandMap();
    Feeder.read(map, 0, SQUARE);
    map.relate(0, 0, 0, 0);
    for (int what = 0; what < 6; what++) {
      Feeder.due("laid " + what, map.laid(what), -13);
      Feeder.due("piece " + what, map.piece(0, what), -13);
      Feeder.due("face " + what, map.face(0, what), -2);
      Feeder.due("node " + what, map.node(0, what), 1000000);
    }
    for (int what : new int[] {-1, 6, LEAST, MOST}) {
      Feeder.due("laid " + what, map.laid(what), -14);
      Feeder.due("piece " + what, map.piece(0, what), -14);
      Feeder.due("face " + what, map.face(0, what), -3);
      Feeder.due("node " + what, map.node(0, what), 1000000);
    }
    Feeder.due("faceArea2", map.faceArea2(1), 0);
    Feeder.due("locate", map.locate(4, 4), -1000000);
    Feeder.due("locate out of bounds", map.locate(500001, 4), -1000000);
    Feeder.due("strays", map.strays(), -13);
    Feeder.due("refused", map.lay(0, 12), -14);
    Feeder.due("nothing laid", map.laid(0), -13);
  }

  private static void numbers() {
    LandMap map = laid(SQUARE, "");
    for (int what : new int[] {-1, 6, LEAST, MOST}) {
      Feeder.due("laid " + what, map.laid(what), -14);
      Feeder.due("piece " + what, map.piece(0, what), -14);
      Feeder.due("face " + what, map.face(0, what), -3);
    }
    for (int what : new int[] {-1, 3, LEAST, MOST}) Feeder.due("node " + what, map.node(0, what), 1000000);
    for (int n : new int[] {-1, 4, LEAST, MOST}) {
      for (int what = 0; what < 3; what++) Feeder.due("node " + n, map.node(n, what), 1000000);
      for (int what = 0; what < 6; what++) Feeder.due("piece " + n, map.piece(n, what), -14);
    }
    for (int f : new int[] {-1, 2, LEAST, MOST}) {
      for (int what = 0; what < 6; what++) Feeder.due("face " + f, map.face(f, what), -3);
      Feeder.due("faceArea2 " + f, map.faceArea2(f), 0);
    }
    Feeder.due("the last node", map.node(3, 0), 8);
    Feeder.due("the last piece", map.piece(3, 1), 3);
    Feeder.due("the last face", map.face(1, 1), 4);
    Feeder.due("its area", map.faceArea2(1), 128);
    Feeder.due("of the outside", map.faceArea2(0), 0);
  }

  private static void atTheBounds() {
    LandMap map = laid("3:A(-500000-500000,500000-500000,500000 500000,-500000 500000,-500000-500000)", "P(500000 500000)");
    Feeder.due("four pieces", map.laid(1), 4);
    Feeder.due("the widest face", map.faceArea2(1), 2000000000000L);
    Feeder.due("within", map.locate(499999, 499999), 1);
    Feeder.due("on it", map.locate(500000, 0), -1 - 3);
    Feeder.due("on it", map.locate(-500000, 0), -1);
    Feeder.due("on a corner, the least", map.locate(500000, 500000), -1 - 2);
    int[][] beyond = {{500001, 0}, {-500001, 0}, {0, 500001}, {0, -500001}, {MOST, MOST}, {LEAST, LEAST}, {MOST, 0}, {0, LEAST}};
    for (int[] p : beyond) Feeder.due("out of bounds", map.locate(p[0], p[1]), 0);
  }

  private static void faces() {
    // A square with a square in it, one in that, and a piece that hangs on the outer one within.
    LandMap map = laid("A(0 0,20 0,20 20,0 20,0 0)A(4 4,16 4,16 16,4 16,4 4)A(8 8,12 8,12 12,8 8)", "L(0 10,2 10)L(9 5,10 5)");
    Feeder.due("faces", map.laid(2), 4);
    int[][] due = {{1, 5}, {2, 11}, {3, 9}, {1, 3}};
    long[] areas = {0, 800 - 288, 288 - 16, 16};
    int[][] where = {{-1, 0}, {2, 2}, {6, 6}, {11, 9}};
    for (int f = 0; f < 4; f++) {
      Feeder.due("rings of " + f, map.face(f, 0), due[f][0]);
      Feeder.due("ways of " + f, map.face(f, 1), due[f][1]);
      Feeder.due("area of " + f, map.faceArea2(f), areas[f]);
      Feeder.due("place in " + f, map.locate(where[f][0], where[f][1]), f);
    }
    // What lies straight above piece 0 lies in the face to its left.
    LandMap above = laid("A(0 0,10-5,12 20,0 0)", "A(8 0,9 0,9 1,8 0)P(8 2)");
    Feeder.due("piece 0 goes to (10, -5)", above.node(above.piece(0, 1), 1), -5);
    Feeder.due("rings of the triangle", above.face(1, 0), 2);
    Feeder.due("rings of the outside", above.face(0, 0), 1);
    Feeder.due("in the triangle", above.locate(8, -1), 1);
    Feeder.due("its area", above.faceArea2(1), above.area2(0, 0) - 1);
    // Two pieces go to the right from the place below: neither is below what lies above it.
    LandMap beside = laid("A(0 0,5-9,10 0,0 0)", "L(2 3,6 4)L(2 3,6 8)A(20 0,30 0,30 9,20 0)A(20 0,30 12,30 20,20 0)");
    Feeder.due("above a fork", beside.locate(2, 9), 0);
    Feeder.due("above two corners", beside.locate(20, 5), 0);
    // Two that touch at a corner: the outside goes round both in one ring.
    LandMap touch = laid("A(0 0,4 0,4 4,0 0)A(4 4,8 4,8 8,4 4)", "");
    Feeder.due("one ring", touch.face(0, 0), 1);
    Feeder.due("six ways", touch.face(0, 1), 6);
    // Faces are numbered by the least way along their rims, (from, to).
    LandMap keys = laid("A(0 0,4 0,4 4,0 4,0 0)A(4 0,8 0,8 4,4 4,4 0)A(0 4,4 4,4 8,0 8,0 4)", "");
    int[][] in = {{1, 1}, {1, 5}, {5, 1}};
    for (int f = 0; f < 3; f++) Feeder.due("face " + (f + 1), keys.locate(in[f][0], in[f][1]), f + 1);
    Feeder.due("left of (0, 0) to (0, 4)", keys.piece(0, 2), 0);
    Feeder.due("right of it", keys.piece(0, 3), 1);
    Feeder.due("left of (0, 0) to (4, 0)", keys.piece(1, 2), 1);
    Feeder.due("right of it", keys.piece(1, 3), 0);
  }

  private static void covers() {
    // The second ring of an area is a hole; twice along a piece is even.
    LandMap map = laid("P(1 1)" + SQUARE + "(2 2,6 2,6 6,2 6,2 2)" + SQUARE + "L(0 0,8 8)", "A(2 2,6 2,6 6,2 2)");
    int rim = map.locate(1, 5);
    int hole = map.locate(3, 5);
    int both = map.locate(5, 3);
    int[][] due = {{0, 0, -1, -1}, {2, 0, 1, -1}, {1, 0, 2, -1}, {1, 1, 2, 0}};
    int[] faces = {0, rim, hole, both};
    for (int i = 0; i < 4; i++) {
      for (int k = 0; k < 4; k++) Feeder.due("face " + i + " " + (k + 2), map.face(faces[i], k + 2), due[i][k]);
    }
    map.drop(0, 1);
    map.lay(0, 1);
    Feeder.due("numbers of features, with those that were dropped", map.face(map.locate(1, 5), 4), 2);
    Feeder.due("how many", map.face(map.locate(1, 5), 2), 1);
  }

  /** A point alone is a node, but no ring and no piece: it lies in its face. */
  private static void lonePlaces() {
    LandMap map = laid(SQUARE, "P(4 4)P(20 20)P(4 4)");
    Feeder.due("nodes", map.laid(0), 6);
    Feeder.due("no piece ends there", map.node(2, 2), 0);
    Feeder.due("its x", map.node(2, 0), 4);
    Feeder.due("in the square", map.locate(4, 4), 1);
    Feeder.due("outside", map.locate(20, 20), 0);
    Feeder.due("rings", map.face(1, 0), 1);
    LandMap one = laid("P(3 3)", "");
    Feeder.due("no pieces", one.laid(1), 0);
    Feeder.due("one node", one.laid(0), 1);
    Feeder.due("one face", one.laid(2), 1);
    Feeder.due("no rings", one.face(0, 0), 0);
    Feeder.due("no ways", one.face(0, 1), 0);
  }

  private static String lines(int many, boolean up) {
    StringBuilder out = new StringBuilder();
    for (int i = 0; i < many; i++) {
      out.append(up ? "L(" + 3 * i + "-1," + 3 * i + " 900)" : "L(-1 " + 3 * i + ",900 " + 3 * i + ")");
    }
    return out.toString();
  }

  private static void nothingChanges() {
    LandMap map = new LandMap();
    Feeder.read(map, 0, "2:L(0 0,5 0)1:" + SQUARE);
    Feeder.read(map, 3, lines(80, false));
    Feeder.read(map, 4, lines(80, true));
    map.lay(0, -1);
    Feeder.due("route", Feeder.route(map, 0, 0, 5, 0), 10);
    StringBuilder before = new StringBuilder();
    Twins.land(before, map);
    int[][] refused = {{3, 4, -12}, {4, 3, -12}, {12, 3, -14}, {3, 12, -14}, {-1, -1, -14}, {0, -2, -14}};
    for (int[] r : refused) {
      Feeder.due("lay " + r[0] + " " + r[1], map.lay(r[0], r[1]), r[2]);
      StringBuilder after = new StringBuilder();
      Twins.land(after, map);
      Feeder.due("what was laid stays", after.toString().equals(before.toString()), true);
      Feeder.due("the way stays", map.routeNode(1), 2);
    }
    Feeder.due("80 by none", map.lay(3, -1), 80);
    Feeder.due("the way is forgotten", map.routeNode(1), -1);
    Feeder.due("80 with itself", map.lay(4, 4), 80);
  }
}
