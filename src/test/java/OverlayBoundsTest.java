/** Terms 5 and 6, promises 25 to 28: overlays of many and of nothing, rings, and relations at their edges. */
public final class OverlayBoundsTest {
  private static final int MOST = Integer.MAX_VALUE;
  private static final int LEAST = Integer.MIN_VALUE;
  private static final String SQUARE = "A(0 0,8 0,8 8,0 8,0 0)";

  public static void main(String[] args) {
    ways();
    wrongNumbers();
    ofNothing();
    twoHundred();
    twoThousand();
    refusedOnes();
    rings();
    straightPlaces();
    values();
    otherOne();
    thereNoMore();
    noRoom();
    closedRows();
    ends();
    areas();
    points();
    names();
    Feeder.finish("OverlayBoundsTest");
  }

  private static LandMap laid(String a, String b) {
    LandMap map = new LandMap();
    if (!a.isEmpty()) Feeder.due("read " + a, Feeder.read(map, 0, a) > 0, true);
    if (!b.isEmpty()) Feeder.due("read " + b, Feeder.read(map, 1, b) > 0, true);
    Feeder.due("lay " + a + " " + b, map.lay(0, 1) >= 0, true);
    return map;
  }

  /** The features that an overlay makes, as texts. */
  private static void due(LandMap map, int way, boolean split, String... want) {
    Feeder.due("overlay " + way, map.overlay(5, way, split), want.length);
    Feeder.due("numbers", map.size(5, 0), want.length);
    for (int f = 0; f < want.length; f++) {
      Feeder.Shape shape = Feeder.shapeOf(map, 5, f);
      String got = shape == null ? "none" : shape.text();
      Feeder.due("overlay " + way + " made " + got + " for " + want[f], got.equals(want[f]), true);
    }
  }

  private static void ways() {
    LandMap map = laid("4:A(0 0,4 0,4 4,0 4,0 0)", "5:A(2 0,6 0,6 4,2 4,2 0)");
    due(map, 0, false, "0:A(0 0,6 0,6 4,0 4,0 0)");
    due(map, 1, false, "0:A(2 0,4 0,4 4,2 4,2 0)");
    due(map, 2, false, "0:A(0 0,2 0,2 4,0 4,0 0)");
    due(map, 3, false, "0:A(0 0,2 0,2 4,0 4,0 0)", "0:A(4 0,6 0,6 4,4 4,4 0)");
    due(map, 0, true, "4:A(0 0,2 0,2 4,0 4,0 0)", "4:A(2 0,4 0,4 4,2 4,2 0)", "5:A(4 0,6 0,6 4,4 4,4 0)");
    due(map, 1, true, "4:A(2 0,4 0,4 4,2 4,2 0)");
    due(map, 2, true, "4:A(0 0,2 0,2 4,0 4,0 0)");
    due(map, 3, true, "4:A(0 0,2 0,2 4,0 4,0 0)", "5:A(4 0,6 0,6 4,4 4,4 0)");
  }

  private static void wrongNumbers() {
    LandMap map = new LandMap();
    Feeder.due("nothing laid", map.overlay(0, 0, false), -13);
    int[] wrong = {-1, 4, LEAST, MOST};
    for (int way : wrong) Feeder.due("way " + way, map.overlay(0, way, false), -14);
    Feeder.read(map, 0, SQUARE);
    map.lay(0, -1);
    for (int way : wrong) Feeder.due("way " + way, map.overlay(0, way, true), -14);
    for (int layer : new int[] {-1, 12, LEAST, MOST}) Feeder.due("layer " + layer, map.overlay(layer, 0, true), -14);
    Feeder.due("no state", map.undo(), 0);
    Feeder.due("into the last layer", map.overlay(11, 0, false), 1);
    Feeder.due("into the first", map.overlay(0, 0, false), 1);
  }

  private static void ofNothing() {
    String[][] nothing = {{"", ""}, {"L(0 0,8 0,8 8,0 0)", ""}, {"P(1 1)", "L(0 0,5 5)"}, {"A(0 0,3 1,2 1,0 0)", ""}};
    for (String[] layers : nothing) {
      LandMap map = laid(layers[0], layers[1]);
      Feeder.read(map, 5, "P(1 1)P(2 2)");
      for (int way = 0; way < 4; way++) {
        due(map, way, false);
        due(map, way, true);
      }
      for (int n = 0; n < 7; n++) map.undo();
      Feeder.due("an overlay of nothing empties the layer", map.size(5, 0), 0);
      Feeder.due("and is a change", map.undo() >= 0, true);
      Feeder.due("that is undone", map.size(5, 0), 2);
    }
    LandMap map = laid(SQUARE, "");
    due(map, 1, false);
    due(map, 0, false, "0:" + SQUARE);
    due(map, 2, false, "0:" + SQUARE);
    due(map, 3, false, "0:" + SQUARE);
    LandMap same = laid(SQUARE, SQUARE);
    due(same, 2, false);
    due(same, 3, false);
    due(same, 1, false, "0:" + SQUARE);
    LandMap only = laid("", "6:" + SQUARE);
    due(only, 1, true);
    due(only, 2, true);
    due(only, 0, true, "6:" + SQUARE);
    due(only, 3, true, "6:" + SQUARE);
  }

  private static String triangles(int many, int y) {
    StringBuilder text = new StringBuilder();
    for (int i = 0; i < many; i++) {
      int x = 5 * i;
      text.append("A(" + x + " " + y + "," + (x + 3) + " " + y + "," + x + " " + (y + 3) + "," + x + " " + y + ")");
    }
    return text.toString();
  }

  private static void twoHundred() {
    LandMap map = laid(triangles(120, 0), triangles(80, 10));
    Feeder.due("200 features", map.overlay(5, 0, false), 200);
    Feeder.due("200 of them", map.size(5, 1), 200);
    Feeder.due("the last", map.feature(5, 199, 3), 4);
    Feeder.due("over themselves", map.overlay(5, 3, true), 200);
    Feeder.read(map, 1, triangles(1, 20));
    map.lay(0, 1);
    Feeder.due("201 features", map.overlay(5, 0, false), -12);
    Feeder.due("201 split", map.overlay(6, 0, true), -12);
    Feeder.due("nothing changed", map.size(5, 0), 200);
    Feeder.due("nothing came", map.size(6, 0), 0);
    Feeder.due("120 of a", map.overlay(5, 2, false), 120);
    // 14 by 15 crossings of bars are 210 wholes; with one bar less 195.
    LandMap bars = laid(bars(14, false), bars(15, true));
    Feeder.due("210 wholes", bars.overlay(5, 1, false), -12);
    Feeder.due("one whole with holes", bars.overlay(5, 0, false), 1);
    bars.drop(1, 3);
    bars.lay(0, 1);
    Feeder.due("196 wholes", bars.overlay(5, 1, false), 196);
  }

  private static String bars(int many, boolean up) {
    StringBuilder out = new StringBuilder();
    for (int i = 0; i < many; i++) {
      int a = 10 * i;
      int b = a + 5;
      if (up) out.append("A(" + a + "-9," + b + "-9," + b + " 400," + a + " 400," + a + "-9)");
      else out.append("A(-9 " + a + ",400 " + a + ",400 " + b + ",-9 " + b + ",-9 " + a + ")");
    }
    return out.toString();
  }

  /** A comb with so many places in its ring, and a triangle within it. */
  private static LandMap comb(int places) {
    StringBuilder text = new StringBuilder("A(");
    for (int i = 0; i < places - 3; i++) text.append(i == 0 ? "" : ",").append(1000 - i).append(' ').append(i % 2 == 0 ? 20 : 17);
    text.append(",-1100 0,1100 0,1000 20)");
    LandMap map = laid(text.toString(), "A(5 2,9 2,5 6,5 2)");
    Feeder.due("places", map.feature(0, 0, 3), places);
    return map;
  }

  private static void twoThousand() {
    LandMap map = comb(2000);
    Feeder.due("2000 places", map.overlay(5, 0, false), 1);
    Feeder.due("2000 places", map.feature(5, 0, 3), 2000);
    Feeder.due("2004 places with a hole", map.overlay(5, 2, false), -12);
    Feeder.due("the former stays", map.feature(5, 0, 3), 2000);
    Feeder.due("2004 in two features", map.overlay(5, 0, true), -12);
    Feeder.due("the hole alone", map.overlay(5, 1, false), 1);
    LandMap nearly = comb(1996);
    Feeder.due("1996 and 4 places", nearly.overlay(5, 2, false), 1);
    Feeder.due("2000 places", nearly.feature(5, 0, 3), 2000);
    Feeder.due("in two features", nearly.overlay(5, 0, true), 2);
    Feeder.due("2000 in the first", nearly.feature(5, 0, 3), 2000);
    Feeder.due("4 in the second", nearly.feature(5, 1, 3), 4);
    LandMap over = comb(1997);
    Feeder.due("1997 and 4 places", over.overlay(5, 2, false), -12);
    Feeder.due("nothing came", over.size(5, 0), 0);
    Feeder.due("no state", over.undo(), 1);
  }

  private static void refusedOnes() {
    Twins.refused("an overlay of 201 features", map -> {
      Feeder.read(map, 0, triangles(120, 0));
      Feeder.read(map, 1, triangles(81, 10));
      Feeder.read(map, 5, "3:P(1 1)");
      map.lay(0, 1);
    }, map -> map.overlay(5, 0, false), -12, 0);
    Twins.refused("no such way", map -> {
      Feeder.read(map, 0, SQUARE);
      map.lay(0, -1);
    }, map -> map.overlay(0, 4, false), -14, 0);
    Twins.refused("no such layer", map -> {
      Feeder.read(map, 0, SQUARE);
      map.lay(0, -1);
    }, map -> map.overlay(12, 0, false), -14, 0);
    Twins.refused("nothing laid", map -> Feeder.read(map, 0, SQUARE), map -> map.overlay(0, 0, false), -13, 0);
  }

  private static void rings() {
    // Wholes that meet at a place alone are two features; a whole that touches itself has a hole.
    due(laid("A(0 0,4 0,4 4,0 4,0 0)A(4 4,8 4,8 8,4 8,4 4)", ""), 0, false,
        "0:A(0 0,4 0,4 4,0 4,0 0)", "0:A(4 4,8 4,8 8,4 8,4 4)");
    due(laid("A(0 0,12 0,12 12,0 12,0 0)", "A(4 4,8 0,8 4,4 4)"), 2, false,
        "0:A(0 0,12 0,12 12,0 12,0 0)(4 4,8 4,8 0,4 4)");
    due(laid("A(0 0,12 0,12 12,0 12,0 0)", "A(8 0,8 6,4 4,7 2,8 0)"), 2, false,
        "0:A(0 0,12 0,12 12,0 12,0 0)(4 4,8 6,8 0,7 2,4 4)");
    // Two holes that meet at a place; one that meets the first ring at a corner of it.
    due(laid("A(0 0,12 0,12 12,0 12,0 0)", "A(2 2,4 2,4 4,2 4,2 2)A(4 4,6 4,6 6,4 6,4 4)"), 2, false,
        "0:A(0 0,12 0,12 12,0 12,0 0)(2 2,2 4,4 4,4 2,2 2)(4 4,4 6,6 6,6 4,4 4)");
    due(laid("A(0 0,12 0,12 12,0 12,0 0)", "A(0 0,4 2,2 4,0 0)"), 2, false,
        "0:A(0 0,12 0,12 12,0 12,0 0)(0 0,2 4,4 2,0 0)");
    // A hole in the hole is a feature of its own.
    due(laid("A(0 0,12 0,12 12,0 12,0 0)(2 2,10 2,10 10,2 10,2 2)A(4 4,8 4,8 8,4 8,4 4)", ""), 0, false,
        "0:A(0 0,12 0,12 12,0 12,0 0)(2 2,2 10,10 10,10 2,2 2)", "0:A(4 4,8 4,8 8,4 8,4 4)");
    // A hole touching the border twice cuts the whole in two.
    due(laid("A(0 0,8 0,8 8,0 8,0 0)", "A(0 4,4 2,8 4,4 6,0 4)"), 2, false,
        "0:A(0 0,8 0,8 4,4 2,0 4,0 0)", "0:A(0 4,4 6,8 4,8 8,0 8,0 4)");
    // Features come in the order of their first rings, those from one place by their next one.
    due(laid("A(0 0,4 4,2 4,0 0)A(0 0,4 1,4 2,0 0)A(-3 9,-2 9,-2 10,-3 9)", ""), 0, false,
        "0:A(-3 9,-2 9,-2 10,-3 9)", "0:A(0 0,4 1,4 2,0 0)", "0:A(0 0,4 4,2 4,0 0)");
  }

  private static void straightPlaces() {
    due(laid("A(4 0,8 0,8 8,4 8,0 8,0 4,0 0,2 0,4 0)", "P(8 3)P(5 8)"), 0, false, "0:" + SQUARE);
    due(laid("A(0 0,4 0,4 4,0 4,0 0)A(4 0,8 0,8 4,4 4,4 0)", ""), 0, false, "0:A(0 0,8 0,8 4,0 4,0 0)");
    // An edge bent by a place beside it is straight no more.
    due(laid("A(0 0,10 1,10 8,0 0)", "P(5 0)"), 0, false, "0:A(0 0,5 0,10 1,10 8,0 0)");
  }

  private static void values() {
    LandMap map = laid("P(0 0)1:A(0 0,4 0,4 4,0 4,0 0)2:A(4 0,8 0,8 4,4 4,4 0)3:A(0 0,8 0,8 4,0 4,0 0)",
        "7:A(0 2,8 2,8 6,0 6,0 2)8:A(0 2,8 2,8 6,0 6,0 2)");
    due(map, 0, true, "1:A(0 0,4 0,4 2,0 2,0 0)", "1:A(0 2,4 2,4 4,0 4,0 2)", "7:A(0 4,8 4,8 6,0 6,0 4)",
        "2:A(4 0,8 0,8 2,4 2,4 0)", "2:A(4 2,8 2,8 4,4 4,4 2)");
    due(map, 0, false, "0:A(0 0,8 0,8 6,0 6,0 0)");
    map.revalue(0, 1, 50);
    due(map, 1, true, "1:A(0 2,4 2,4 4,0 4,0 2)", "2:A(4 2,8 2,8 4,4 4,4 2)");
    map.revalue(0, 1, LEAST);
    map.drop(1, 0);
    map.lay(0, 1);
    due(map, 3, true, LEAST + ":A(0 0,4 0,4 2,0 2,0 0)", "8:A(0 4,8 4,8 6,0 6,0 4)", "2:A(4 0,8 0,8 2,4 2,4 0)");
  }

  private static void otherOne() {
    LandMap map = new LandMap();
    Feeder.due("none yet", map.other(0, 0), false);
    Feeder.due("relate", map.relate(0, 0, 0, 0), -14);
    Feeder.read(map, 1, SQUARE);
    Feeder.due("the other one is not there", map.relate(1, 0, 0, 0), -14);
    Feeder.due("nor for a name", map.relation(1, 0, 1), -14);
    Feeder.read(map, 0, "P(4 4)P(20 20)");
    Feeder.due("at first feature 0 of layer 0", map.relate(1, 0, 0, 0), 0);
    Feeder.due("other", map.other(0, 1), true);
    Feeder.due("apart", map.relation(1, 0, 1), 1);
    int[][] wrong = {{0, 2}, {0, -1}, {12, 0}, {-1, 0}, {2, 0}, {LEAST, LEAST}, {MOST, MOST}, {0, MOST}};
    for (int[] w : wrong) {
      Feeder.due("no such feature", map.other(w[0], w[1]), false);
      Feeder.due("the former stays", map.relation(1, 0, 1), 1);
    }
    for (int i : new int[] {-1, 3, LEAST, MOST}) {
      Feeder.due("i", map.relate(1, 0, i, 0), -14);
      Feeder.due("j", map.relate(1, 0, 0, i), -14);
    }
    for (int name : new int[] {-1, 7, LEAST, MOST}) Feeder.due("name", map.relation(1, 0, name), -14);
    int[][] none = {{1, 1}, {1, -1}, {2, 0}, {12, 0}, {-1, 0}, {MOST, LEAST}};
    for (int[] n : none) {
      Feeder.due("no such feature", map.relate(n[0], n[1], 0, 0), -14);
      Feeder.due("no such feature", map.relation(n[0], n[1], 0), -14);
    }
  }

  private static void thereNoMore() {
    LandMap map = new LandMap();
    Feeder.read(map, 0, SQUARE + "P(1 1)");
    map.other(0, 1);
    Feeder.due("it is there", map.relate(0, 0, 0, 0), 0);
    map.drop(0, 1);
    Feeder.due("it is there no more", map.relate(0, 0, 0, 0), -14);
    Feeder.due("nor for a name", map.relation(0, 0, 4), -14);
    Feeder.due("not by another feature", map.other(0, 1), false);
    Feeder.read(map, 0, "P(2 2)");
    Feeder.due("a further one has not its number", map.relate(0, 0, 0, 0), -14);
    map.undo();
    map.undo();
    Feeder.due("there again", map.relate(0, 0, 0, 0), 0);
    Feeder.move(map, 0, 1, 0, 0, 20, 20);
    Feeder.due("as it is now", map.relate(0, 0, 0, 0), -1);
    map.lay(0, -1);
    map.overlay(0, 0, false);
    Feeder.due("an overlay took it away", map.relate(0, 0, 0, 0), -14);
    map.undo();
    Feeder.due("and it is there again", map.relate(0, 0, 0, 2), 2);
    // With itself it lies as with its like.
    map.other(0, 0);
    Feeder.due("equal to itself", map.relation(0, 0, 0), 1);
    Feeder.due("not apart", map.relation(0, 0, 1), 0);
  }

  private static String rows(int many, boolean up) {
    StringBuilder out = new StringBuilder("L");
    for (int i = 0; i < many; i++) {
      int a = 3 * i;
      out.append(up ? "(" + a + "-1," + a + " 900)" : "(-1 " + a + ",900 " + a + ")");
    }
    return out.toString();
  }

  private static void noRoom() {
    LandMap map = new LandMap();
    Feeder.read(map, 0, rows(66, false) + rows(80, false));
    Feeder.read(map, 1, rows(66, true) + rows(80, true) + "P(0 0)");
    map.other(1, 0);
    Feeder.due("66 by 66", map.relate(0, 0, 0, 0), 0);
    Feeder.due("crossing", map.relation(0, 0, 6), 1);
    map.other(1, 1);
    Feeder.due("80 by 80", map.relate(0, 1, 0, 0), -12);
    Feeder.due("80 by 80", map.relation(0, 1, 6), -12);
    Feeder.due("-14 before -12", map.relate(0, 1, 3, 0), -14);
    Feeder.due("-14 before -12", map.relation(0, 1, 7), -14);
    map.lay(0, -1);
    int pieces = map.laid(1);
    map.relate(0, 1, 0, 0);
    Feeder.due("what is laid stays", map.laid(1), pieces);
    map.other(1, 2);
    Feeder.due("with another one", map.relate(0, 1, 0, 0), 0);
  }

  /** The nine entries of the relation of two features, row by row, with - for -1. */
  private static void relation(String one, String two, String want) {
    LandMap map = new LandMap();
    Feeder.read(map, 3, one);
    Feeder.read(map, 4, two);
    map.other(4, 0);
    StringBuilder got = new StringBuilder();
    StringBuilder back = new StringBuilder();
    for (int i = 0; i < 9; i++) got.append("-012".charAt(map.relate(3, 0, i / 3, i % 3) + 1));
    map.other(3, 0);
    for (int i = 0; i < 9; i++) back.append("-012".charAt(map.relate(4, 0, i % 3, i / 3) + 1));
    Feeder.due("relation of " + one + " and " + two + " is " + got + " for " + want, got.toString().equals(want), true);
    Feeder.due("the other way round it is " + back, back.toString().equals(want), true);
  }

  private static void closedRows() {
    // A row that ends where it begins has no end: its begin is inside.
    relation("L(0 0,4 0,4 4,0 0)", "P(0 0)", "0-1-----2");
    relation("L(0 0,4 0,0 0)", "P(0 0)", "0-1-----2");
    relation("L(0 0,4 0)", "P(0 0)", "--10-0--2");
    relation("L(0 0,4 0,4 4,0 0)(0 0,-5 0)", "P(0 0)", "--10-0--2");
    relation("L(0 0,4 0,4 4,0 0)(0 0,-5 0)(0 0,0-5)", "P(0 0)", "0-1--0--2");
    relation("L(0 0,4 0,4 4,0 0)", "L(0 0,4 0,4 4,0 0)", "1-------2");
    relation("L(0 0,4 0)", "L(4 0,0 0)", "1---0---2");
  }

  private static void ends() {
    // Two ends at a node are even, three odd, and a row may pass through it besides.
    relation("L(0 0,4 0)(0 0,0 4)", "P(0 0)", "0-1--0--2");
    relation("L(0 0,4 0)(0 0,0 4)(0 0,4 4)", "P(0 0)", "--10-0--2");
    relation("L(0 0,4 0)(-4 0,0 0)", "P(0 0)", "0-1--0--2");
    relation("L(-4 0,4 0)(0 0,0 4)", "P(0 0)", "--10-0--2");
    relation("L(-4 0,4 0)(0-4,0 4)", "P(0 0)", "0-1--0--2");
    relation("L(0 0,4 0)(0 0,4 0)", "P(0 0)", "0-1-----2");
    // An end on the inside of another line.
    relation("L(-4 0,4 0)", "L(0 0,0 4)", "-01--0102");
  }

  private static void areas() {
    relation(SQUARE, SQUARE, "2---1---2");
    relation(SQUARE, "A(8 0,16 0,16 8,8 8,8 0)", "--2-11212");
    relation(SQUARE, "A(8 8,16 8,16 16,8 8)", "--2-01212");
    relation(SQUARE, "A(9 0,16 0,16 8,9 8,9 0)", "--2--1212");
    relation(SQUARE, "A(2 2,6 2,6 6,2 2)", "212--1--2");
    relation(SQUARE, "A(0 0,6 2,6 6,0 0)", "212-01--2");
    relation(SQUARE, "A(4 4,12 4,12 12,4 12,4 4)", "212101212");
    relation(SQUARE + "(2 2,6 2,6 6,2 6,2 2)", "A(2 2,6 2,6 6,2 6,2 2)", "--2-112-2");
    relation(SQUARE + "(2 2,6 2,6 6,2 6,2 2)", "A(3 3,5 3,5 5,3 3)", "--2--1212");
    relation(SQUARE, "L(0 0,8 0)", "--2101--2");
    relation(SQUARE, "L(2 2,6 6)", "102--1--2");
    relation(SQUARE, "L(0 0,8 8)", "1-2-01--2");
    relation(SQUARE, "L(-4 4,12 4)", "1-20-1102");
    relation(SQUARE, "L(-4 0,0 0)", "--2-01102");
    relation(SQUARE, "L(-4 9,20 9)", "--2--1102");
  }

  private static void points() {
    relation(SQUARE, "P(4 4)", "0-2--1--2");
    relation(SQUARE, "P(0 0)", "--20-1--2");
    relation(SQUARE, "P(8 3)", "--20-1--2");
    relation(SQUARE, "P(9 3)", "--2--10-2");
    relation(SQUARE + "(2 2,6 2,6 6,2 6,2 2)", "P(4 4)", "--2--10-2");
    relation("P(1 1)", "P(1 1)", "0-------2");
    relation("P(1 1)", "P(1 2)", "--0---0-2");
    // Beside a line, but within the cells through which it goes.
    relation("L(0 0,10 1)", "P(5 0)", "0-1--0--2");
    relation("L(0 0,10 1)", "P(5 2)", "--1--00-2");
  }

  private static void names(String one, String two, String want) {
    LandMap map = new LandMap();
    Feeder.read(map, 3, one);
    Feeder.read(map, 4, two);
    map.other(4, 0);
    StringBuilder got = new StringBuilder();
    for (int name = 0; name < 7; name++) got.append(map.relation(3, 0, name) == 1 ? "0123456".charAt(name) : '.');
    Feeder.due("names of " + one + " and " + two + " are " + got + " for " + want, got.toString().equals(want), true);
  }

  private static void names() {
    names(SQUARE, SQUARE, "0..34..");
    names(SQUARE, "A(9 0,16 0,16 8,9 0)", ".1.....");
    names(SQUARE, "A(8 0,16 0,16 8,8 0)", "..2....");
    names(SQUARE, "A(8 8,16 8,16 16,8 8)", "..2....");
    names("A(2 2,6 2,6 6,2 2)", SQUARE, "...3...");
    names(SQUARE, "A(2 2,6 2,6 6,2 2)", "....4..");
    names(SQUARE, "A(4 4,12 4,12 12,4 4)", ".....5.");
    names("L(-4 4,12 4)", SQUARE, "......6");
    names(SQUARE, "L(-4 4,12 4)", "......6");
    names("L(2 2,6 6)", SQUARE, "...3...");
    names("L(0 0,8 0)", SQUARE, "..2....");
    names("P(4 4)", SQUARE, "...3...");
    names("P(0 0)", SQUARE, "..2....");
    names("P(1 1)", "P(1 1)", "0..34..");
    names("P(1 1)", "P(1 2)", ".1.....");
    names("L(0 0,8 0)", "L(4-4,4 4)", "......6");
    names("L(0 0,8 0)", "L(4 0,12 0)", ".....5.");
    names("L(0 0,8 0)", "L(8 0,12 0)", "..2....");
    names("L(0 0,8 0)", "L(4 0,4 4)", "..2....");
    names("L(0 0,8 0)", "L(2 0,4 0)", "....4..");
    names("L(0 0,8 0)", "P(4 0)", "....4..");
    names("L(0 0,8 0)", "P(8 0)", "..2....");
    names("P(8 1)", "L(0 0,8 0)", ".1.....");
    // Two lines that have just a bend in common.
    names("L(0 0,4 4,8 0)", "L(0 8,4 4,8 8)", "......6");
  }
}
