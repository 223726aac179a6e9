/** Terms 3 and 9, promises 4 and 8 to 17: features, states, places for life, numbers that stay free, what undo() leaves. */
public final class LayerBoundsTest {
  private static final int MOST = Integer.MAX_VALUE;
  private static final int LEAST = Integer.MIN_VALUE;
  private static final String SQUARE = "A(0 0,8 0,8 8,0 8,0 0)";
  private static final int NO_FEATURE = -1000000014;

  public static void main(String[] args) {
    layers();
    numbers();
    twoHundred();
    twoHundredAndOverlays();
    states();
    whatMakesStates();
    thirtyStates();
    statesOfAllLayers();
    placesForLife();
    placesOfMoves();
    placesOfOverlays();
    freeNumbers();
    anewFromNothing();
    laidStays();
    notTakenBack();
    codesInOrder();
    Feeder.finish("LayerBoundsTest");
  }

  private static String points(int many) {
    return "P(1 1)".repeat(many);
  }

  private static void layers() {
    LandMap map = new LandMap();
    for (int layer = 0; layer < 12; layer++) Feeder.due("read " + layer, Feeder.read(map, layer, layer + ":L(0 0,3 4)"), 1);
    for (int layer = 0; layer < 12; layer++) {
      Feeder.due("size", map.size(layer, 0), 1);
      Feeder.due("value", map.feature(layer, 0, 1), layer);
      Feeder.due("at", map.at(layer, 0, 0, 1, 1), 4);
      Feeder.due("area2", map.area2(layer, 0), 0);
      Feeder.due("length", map.length(layer, 0), 5);
      Feeder.due("other", map.other(layer, 0), true);
      Feeder.due("relate", map.relate(layer, 0, 0, 0), 1);
      Feeder.due("relation", map.relation(layer, 0, 0), 1);
      Feeder.due("lay", map.lay(layer, 11 - layer), 1);
      Feeder.due("move", Feeder.move(map, layer, 0, 0, 1, 6, 8), 0);
      Feeder.due("revalue", map.revalue(layer, 0, -layer), 0);
      Feeder.due("overlay", map.overlay(layer, 0, false), 0);
      Feeder.due("undo", map.undo() >= 0, true);
      Feeder.due("drop", map.drop(layer, 0), 0);
      for (int n = 0; n < 3; n++) Feeder.due("undo", map.undo() >= 0, true);
    }
    for (int layer : new int[] {-1, 12, LEAST, MOST}) {
      Feeder.due("read " + layer, Feeder.read(map, layer, "P(1 1)"), -14);
      Feeder.due("size " + layer, map.size(layer, 0), -14);
      Feeder.due("size " + layer, map.size(layer, 1), -14);
      Feeder.due("feature " + layer, map.feature(layer, 0, 0), NO_FEATURE);
      Feeder.due("at " + layer, map.at(layer, 0, 0, 0, 0), 1000000);
      Feeder.due("area2 " + layer, map.area2(layer, 0), 0);
      Feeder.due("length " + layer, map.length(layer, 0), -14);
      Feeder.due("move " + layer, Feeder.move(map, layer, 0, 0, 0, 1, 1), -14);
      Feeder.due("drop " + layer, map.drop(layer, 0), -14);
      Feeder.due("revalue " + layer, map.revalue(layer, 0, 1), -14);
      Feeder.due("lay " + layer, map.lay(layer, 0), -14);
      Feeder.due("lay " + layer, map.lay(layer, -1), -14);
      if (layer != -1) Feeder.due("lay 0 " + layer, map.lay(0, layer), -14);
      Feeder.due("overlay " + layer, map.overlay(layer, 0, false), -14);
      Feeder.due("other " + layer, map.other(layer, 0), false);
      Feeder.due("relate " + layer, map.relate(layer, 0, 0, 0), -14);
      Feeder.due("relation " + layer, map.relation(layer, 0, 0), -14);
    }
    Feeder.due("lay 0 -1", map.lay(0, -1), 1);
    Feeder.due("lay 0 -2", map.lay(0, -2), -14);
  }

  private static void numbers() {
    LandMap map = new LandMap();
    Feeder.read(map, 4, "7:L(1 2,3 4,5 6)(7 8,9 10)-3:P(6 5)" + SQUARE + "(1 1,2 1,1 2,1 1)");
    int[][] due = {{1, 7, 2, 5}, {0, -3, 1, 1}, {2, 0, 2, 9}};
    int[][] rows = {{3, 2}, {1}, {5, 4}};
    for (int f = 0; f < 3; f++) {
      for (int what = 0; what < 4; what++) Feeder.due("feature " + f + " " + what, map.feature(4, f, what), due[f][what]);
      for (int what : new int[] {-1, 4, LEAST, MOST}) Feeder.due("feature what " + what, map.feature(4, f, what), NO_FEATURE);
      for (int row = 0; row < rows[f].length; row++) {
        int last = rows[f][row] - 1;
        Feeder.due("the last place", map.at(4, f, row, last, 0) != 1000000, true);
        Feeder.due("the last place", map.at(4, f, row, last, 1) != 1000000, true);
        for (int k : new int[] {-1, last + 1, LEAST, MOST}) {
          Feeder.due("place " + k, map.at(4, f, row, k, 0), 1000000);
          Feeder.due("move of place " + k, Feeder.move(map, 4, f, row, k, 1, 1), -14);
        }
        for (int axis : new int[] {-1, 2, LEAST, MOST}) Feeder.due("axis " + axis, map.at(4, f, row, 0, axis), 1000000);
      }
      for (int row : new int[] {-1, rows[f].length, LEAST, MOST}) {
        Feeder.due("row " + row, map.at(4, f, row, 0, 0), 1000000);
        Feeder.due("move in row " + row, Feeder.move(map, 4, f, row, 0, 1, 1), -14);
      }
    }
    for (int f : new int[] {-1, 3, LEAST, MOST}) {
      for (int what = 0; what < 4; what++) Feeder.due("no feature " + f, map.feature(4, f, what), NO_FEATURE);
      Feeder.due("at of no feature", map.at(4, f, 0, 0, 0), 1000000);
      Feeder.due("area2 of no feature", map.area2(4, f), 0);
      Feeder.due("length of no feature", map.length(4, f), -14);
      Feeder.due("move of no feature", Feeder.move(map, 4, f, 0, 0, 1, 1), -14);
      Feeder.due("drop of no feature", map.drop(4, f), -14);
      Feeder.due("revalue of no feature", map.revalue(4, f, 1), -14);
      Feeder.due("other of no feature", map.other(4, f), false);
    }
    for (int what : new int[] {-1, 2, LEAST, MOST}) Feeder.due("size what " + what, map.size(4, what), -14);
    for (int many = 0; many < 4; many++) {
      for (int n = 0; n < many; n++) map.spot(1, 1);
      Feeder.due("move by " + many + " spots", map.move(4, 1, 0, 0), many == 1 ? 0 : -14);
      Feeder.due("they are used up", map.spot(0, 0), 1);
      map.bar();
    }
    for (int v : new int[] {LEAST, -1, 0, 1, 1000000000, MOST}) {
      Feeder.due("revalue " + v, map.revalue(4, 1, v), 0);
      Feeder.due("value " + v, map.feature(4, 1, 1), v);
    }
  }

  private static void twoHundred() {
    LandMap map = new LandMap();
    Feeder.due("199", Feeder.read(map, 0, points(199)), 199);
    Feeder.due("two more", Feeder.read(map, 0, points(2)), -12);
    Feeder.due("none of them came", map.size(0, 0), 199);
    Feeder.due("no fault", map.place(), -1);
    Feeder.due("no rule", map.rule(), 0);
    Feeder.due("nor a feature", map.broken(), -1);
    Feeder.due("one more", Feeder.read(map, 0, points(1)), 1);
    Feeder.due("200 numbers", map.size(0, 0), 200);
    Feeder.due("the last", map.feature(0, 199, 0), 0);
    Feeder.due("none behind it", map.feature(0, 200, 0), NO_FEATURE);
    Feeder.due("not one more", Feeder.read(map, 0, points(1)), -12);
    Feeder.due("a rule before no room", Feeder.read(map, 0, "L(1 1,1 1)"), -2);
    Feeder.due("a fault before no room", Feeder.read(map, 0, "P(1 1"), -1);
    for (int f = 0; f < 200; f += 50) Feeder.due("drop", map.drop(0, f), 0);
    Feeder.due("numbers", map.size(0, 0), 200);
    Feeder.due("there", map.size(0, 1), 196);
    Feeder.due("dropped numbers are not free for others", Feeder.read(map, 0, points(1)), -12);
    Feeder.due("200 in one text", Feeder.read(map, 11, points(200)), 200);
    Feeder.due("201 in one text", Feeder.read(map, 10, points(201)), -12);
    Feeder.due("none", map.size(10, 0), 0);
    Feeder.due("200", Feeder.read(map, 10, points(200)), 200);
  }

  private static void twoHundredAndOverlays() {
    LandMap map = new LandMap();
    Feeder.read(map, 0, points(198) + "3:" + SQUARE);
    Feeder.read(map, 1, "A(20 0,21 0,21 1,20 0)");
    map.lay(0, 1);
    Feeder.due("overlay into it", map.overlay(0, 0, false), 2);
    Feeder.due("anew", map.size(0, 0), 2);
    Feeder.due("198 behind them", Feeder.read(map, 0, points(198)), 198);
    Feeder.due("no 201st", Feeder.read(map, 0, points(1)), -12);
    Feeder.due("undo", map.undo(), 3);
    Feeder.due("199 are too many", Feeder.read(map, 0, points(199)), -12);
    Feeder.due("undo", map.undo(), 2);
    Feeder.due("as it was", map.size(0, 0), 199);
    Feeder.due("one has room", Feeder.read(map, 0, points(1)), 1);
  }

  private static void states() {
    LandMap map = new LandMap();
    Feeder.due("none at first", map.undo(), -3);
    for (int n = 1; n <= 30; n++) {
      Feeder.read(map, n % 3, n + ":P(1 1)");
      Feeder.due("undo", map.undo(), n - 1);
      Feeder.read(map, n % 3, n + ":P(1 1)");
    }
    for (int n = 30; n >= 1; n--) {
      Feeder.due("the latest value", map.feature(n % 3, map.size(n % 3, 0) - 1, 1), n);
      Feeder.due("undo", map.undo(), n - 1);
    }
    for (int layer = 0; layer < 3; layer++) Feeder.due("empty", map.size(layer, 0), 0);
    Feeder.due("no more", map.undo(), -3);
    Feeder.due("nor now", map.undo(), -3);
    // What was undone does not come back: a change behind it begins another row of states.
    Feeder.read(map, 0, "1:P(1 1)");
    map.revalue(0, 0, 2);
    map.revalue(0, 0, 3);
    Feeder.due("undo", map.undo(), 2);
    map.revalue(0, 0, 4);
    Feeder.due("undo", map.undo(), 2);
    Feeder.due("value", map.feature(0, 0, 1), 2);
    Feeder.due("undo", map.undo(), 1);
    Feeder.due("value", map.feature(0, 0, 1), 1);
  }

  private static void whatMakesStates() {
    LandMap map = new LandMap();
    Feeder.due("read", Feeder.read(map, 0, "5:L(0 0,8 0)1:" + SQUARE), 2);
    Feeder.due("move", Feeder.move(map, 0, 0, 0, 0, -3, 0), 0);
    Feeder.due("a move to where it is", Feeder.move(map, 0, 0, 0, 0, -3, 0), 0);
    Feeder.due("revalue", map.revalue(0, 0, 6), 0);
    Feeder.due("the same value", map.revalue(0, 0, 6), 0);
    Feeder.due("lay", map.lay(0, -1) > 0, true);
    Feeder.due("overlay", map.overlay(1, 0, false), 1);
    Feeder.due("the same overlay", map.overlay(1, 0, false), 1);
    Feeder.due("an overlay of nothing", map.overlay(1, 1, false), 0);
    Feeder.due("of nothing into an empty layer", map.overlay(1, 1, false), 0);
    Feeder.due("drop", map.drop(0, 1), 0);
    Feeder.due("ten changes", map.undo(), 9);
    // None of these makes one, nor any call that is refused.
    map.lay(0, 1);
    map.other(0, 1);
    map.corner(1, 1);
    map.raster(1, 2, 2);
    map.relate(0, 0, 0, 0);
    map.relation(0, 0, 3);
    map.spread(0, 0);
    Feeder.algebra(map, "a+1");
    Feeder.bar(map, 0, 0, 1, 1, 2, 2);
    Feeder.route(map, 0, 0, 8, 0);
    map.strays();
    map.end(0);
    Feeder.read(map, 0, "x");
    Feeder.read(map, 0, "L(1 1,1 1)");
    Feeder.read(map, 12, "P(1 1)");
    Feeder.read(map, 0, points(200));
    Feeder.move(map, 0, 0, 0, 0, 8, 0);
    map.move(0, 0, 0, 0);
    map.drop(0, 2);
    map.revalue(0, 2, 1);
    map.overlay(12, 0, false);
    map.overlay(1, 4, false);
    map.lay(12, 0);
    int[] left = {8, 7, 6, 5, 4, 3, 2, 1, 0, -3};
    for (int n : left) Feeder.due("undo", map.undo(), n);
  }

  private static void thirtyStates() {
    for (int changes = 29; changes <= 32; changes++) {
      LandMap map = new LandMap();
      Feeder.read(map, 0, "1:P(1 1)");
      for (int n = 2; n <= changes; n++) Feeder.due("revalue", map.revalue(0, 0, n), 0);
      int can = Math.min(30, changes);
      for (int n = can - 1; n >= 0; n--) Feeder.due("undo after " + changes, map.undo(), n);
      Feeder.due("none is kept", map.undo(), -3);
      if (changes <= 30) Feeder.due("empty", map.size(0, 0), 0);
      else Feeder.due("the value then", map.feature(0, 0, 1), changes - 30);
    }
    LandMap map = new LandMap();
    Feeder.read(map, 0, "P(1 1)");
    for (int n = 0; n < 100; n++) map.revalue(0, 0, n);
    for (int n = 29; n >= 10; n--) Feeder.due("undo", map.undo(), n);
    Feeder.due("value", map.feature(0, 0, 1), 79);
    for (int n = 0; n < 25; n++) map.revalue(0, 0, 200 + n);
    for (int n = 29; n >= 0; n--) Feeder.due("undo", map.undo(), n);
    Feeder.due("30 before the latest", map.feature(0, 0, 1), 74);
  }

  private static void statesOfAllLayers() {
    LandMap map = new LandMap();
    Feeder.read(map, 0, "1:P(1 1)2:P(2 2)");
    Feeder.read(map, 5, "3:L(0 0,1 1)");
    map.drop(0, 0);
    map.revalue(5, 0, 4);
    Feeder.move(map, 5, 0, 0, 0, 7, 7);
    Feeder.due("undo of the move", map.undo(), 4);
    Feeder.due("x", map.at(5, 0, 0, 0, 0), 0);
    Feeder.due("the value stays", map.feature(5, 0, 1), 4);
    Feeder.due("undo of the value", map.undo(), 3);
    Feeder.due("value", map.feature(5, 0, 1), 3);
    Feeder.due("dropped still", map.feature(0, 0, 1), NO_FEATURE);
    Feeder.due("undo of the drop", map.undo(), 2);
    Feeder.due("there again", map.feature(0, 0, 1), 1);
    Feeder.due("two", map.size(0, 1), 2);
    Feeder.due("undo of layer 5", map.undo(), 1);
    Feeder.due("empty", map.size(5, 0), 0);
    Feeder.due("layer 0 stays", map.size(0, 0), 2);
  }

  private static String comb(int places) {
    StringBuilder text = new StringBuilder("L(0 0");
    for (int i = 1; i < places; i++) text.append(i % 2 == 0 ? ",0 0" : ",1 0");
    return text.append(')').toString();
  }

  /** A map on which so many places have been made; layer 0 has a line of 2000, layers 2 to 11 are empty. */
  private static LandMap made(int places) {
    LandMap map = new LandMap();
    Feeder.read(map, 0, comb(2000));
    int sum = 2000;
    for (; sum + 2000 <= places; sum += 2000) Feeder.due("move", Feeder.move(map, 0, 0, 0, 0, 9, sum / 2000), 0);
    for (; sum < places; sum += Math.min(200, places - sum)) {
      Feeder.due("points", Feeder.read(map, 1, points(Math.min(200, places - sum))) > 0, true);
      map.lay(11, -1);
      map.overlay(1, 0, false);
    }
    return map;
  }

  private static void placesForLife() {
    LandMap map = made(59998);
    Feeder.due("three places", Feeder.read(map, 2, "L(0 0,1 1,2 2)"), -12);
    Feeder.due("none came", map.size(2, 0), 0);
    Feeder.due("no fault", map.place(), -1);
    Feeder.due("three points", Feeder.read(map, 2, points(3)), -12);
    Feeder.due("-2 makes none", Feeder.read(map, 2, "L(0 0,0 0)"), -2);
    Feeder.due("-1 makes none", Feeder.read(map, 2, "L(0 0,0 1"), -1);
    Feeder.due("-14 makes none", Feeder.read(map, 12, "L(0 0,0 1)"), -14);
    Feeder.due("two places", Feeder.read(map, 2, "L(0 0,1 1)"), 1);
    Feeder.due("60000 are made", Feeder.read(map, 2, "P(1 1)"), -12);
    Feeder.due("a move makes some", Feeder.move(map, 2, 0, 0, 0, 5, 5), -12);
    Feeder.due("nothing moved", map.at(2, 0, 0, 0, 0), 0);
    Feeder.due("-2 before it", Feeder.move(map, 2, 0, 0, 0, 1, 1), -2);
    Feeder.due("rule", map.rule(), 2);
    Feeder.due("-14 before it", Feeder.move(map, 2, 0, 0, 2, 1, 1), -14);
    Feeder.due("revalue makes none", map.revalue(2, 0, 8), 0);
    Feeder.due("drop makes none", map.drop(2, 0), 0);
    Feeder.due("drop gives none back", Feeder.read(map, 2, "P(1 1)"), -12);
    Feeder.due("undo", map.undo() >= 0, true);
    Feeder.due("undo", map.undo() >= 0, true);
    Feeder.due("undo of the read", map.undo() >= 0, true);
    Feeder.due("it is there no more", map.size(2, 0), 0);
    Feeder.due("undo gives none back", Feeder.read(map, 2, "P(1 1)"), -12);
  }

  private static void placesOfMoves() {
    LandMap map = made(60000 - 2 - 5 - 1);
    Feeder.read(map, 2, "L(0 0,1 1)");
    Feeder.due("all places of the feature are made", Feeder.move(map, 2, 0, 0, 0, 9, 9), 0);
    Feeder.due("four are left", Feeder.read(map, 3, points(5)), -12);
    Feeder.due("two", Feeder.move(map, 2, 0, 0, 0, 8, 8), 0);
    Feeder.due("and two", Feeder.move(map, 2, 0, 0, 0, 7, 7), 0);
    Feeder.due("none is left", Feeder.move(map, 2, 0, 0, 0, 6, 6), -12);
    Feeder.due("the former stays", map.at(2, 0, 0, 0, 0), 7);
    Feeder.due("undo", map.undo() >= 0, true);
    Feeder.due("gives none back", Feeder.move(map, 2, 0, 0, 0, 6, 6), -12);
    LandMap point = made(59998);
    Feeder.read(point, 2, "P(1 1)");
    Feeder.due("a point makes one", Feeder.move(point, 2, 0, 0, 0, 2, 2), 0);
    Feeder.due("no more", Feeder.move(point, 2, 0, 0, 0, 3, 3), -12);
  }

  private static void placesOfOverlays() {
    for (int left = 8; left <= 10; left++) {
      LandMap map = made(60000 - 10 - left);
      Feeder.read(map, 2, "A(0 0,4 0,4 4,0 4,0 0)A(10 0,14 0,14 4,10 4,10 0)");
      map.lay(2, -1);
      Feeder.due("with " + left + " left", map.overlay(3, 0, false), left == 10 ? 2 : -12);
      Feeder.due("features", map.size(3, 0), left == 10 ? 2 : 0);
      Feeder.due("an overlay of nothing has room", map.overlay(4, 1, false), 0);
      Feeder.due("what is left stays", Feeder.read(map, 5, points(left)), left == 10 ? -12 : left);
    }
  }

  private static void freeNumbers() {
    LandMap map = new LandMap();
    Feeder.read(map, 0, "1:" + SQUARE + "2:L(0 0,9 9)3:P(4 4)");
    map.other(0, 1);
    Feeder.due("drop", map.drop(0, 1), 0);
    Feeder.due("numbers", map.size(0, 0), 3);
    Feeder.due("there", map.size(0, 1), 2);
    for (int what = 0; what < 4; what++) Feeder.due("feature", map.feature(0, 1, what), NO_FEATURE);
    Feeder.due("at", map.at(0, 1, 0, 0, 0), 1000000);
    Feeder.due("area2", map.area2(0, 1), 0);
    Feeder.due("length", map.length(0, 1), -14);
    Feeder.due("move", Feeder.move(map, 0, 1, 0, 0, 1, 1), -14);
    Feeder.due("drop", map.drop(0, 1), -14);
    Feeder.due("revalue", map.revalue(0, 1, 1), -14);
    Feeder.due("other", map.other(0, 1), false);
    Feeder.due("relate", map.relate(0, 1, 0, 0), -14);
    Feeder.due("relation", map.relation(0, 1, 0), -14);
    Feeder.due("the other one is there no more", map.relate(0, 0, 0, 0), -14);
    Feeder.due("the others keep their numbers", map.feature(0, 2, 1), 3);
    Feeder.due("read", Feeder.read(map, 0, "4:P(5 5)"), 1);
    Feeder.due("a further number", map.feature(0, 3, 1), 4);
    Feeder.due("free still", map.feature(0, 1, 1), NO_FEATURE);
    Feeder.due("drop the last", map.drop(0, 3), 0);
    Feeder.due("numbers", map.size(0, 0), 4);
    Feeder.due("read", Feeder.read(map, 0, "5:P(5 5)"), 1);
    Feeder.due("not the number of the last one", map.feature(0, 3, 1), NO_FEATURE);
    Feeder.due("a further number", map.feature(0, 4, 1), 5);
    Feeder.due("lay without them", map.lay(0, -1), 4);
    Feeder.due("the square has number 0", map.face(1, 4), 0);
    for (int f = 0; f < 5; f++) map.drop(0, f);
    Feeder.due("all are gone", map.size(0, 1), 0);
    Feeder.due("their numbers stay", map.size(0, 0), 5);
    Feeder.due("laid, it is empty", map.lay(0, -1), 0);
    Feeder.due("no node", map.laid(0), 0);
    Feeder.due("undo", map.undo() >= 0, true);
    Feeder.due("the latest is there again", map.feature(0, 4, 1), 5);
  }

  private static void anewFromNothing() {
    LandMap map = new LandMap();
    Feeder.read(map, 0, "1:" + SQUARE + "2:A(20 0,28 0,28 8,20 0)");
    Feeder.read(map, 1, "9:P(1 1)9:P(2 2)9:P(3 3)");
    map.drop(1, 0);
    map.lay(0, -1);
    Feeder.due("overlay", map.overlay(1, 0, true), 2);
    Feeder.due("numbers", map.size(1, 0), 2);
    Feeder.due("number 0 is used again", map.feature(1, 0, 1), 1);
    Feeder.due("number 1", map.feature(1, 1, 1), 2);
    Feeder.due("no number 2", map.feature(1, 2, 1), NO_FEATURE);
    Feeder.due("read behind them", Feeder.read(map, 1, "7:P(1 1)"), 1);
    Feeder.due("number 2", map.feature(1, 2, 1), 7);
    Feeder.due("overlay of nothing", map.overlay(1, 1, false), 0);
    Feeder.due("numbers", map.size(1, 0), 0);
    Feeder.due("read", Feeder.read(map, 1, "6:P(1 1)"), 1);
    Feeder.due("from 0", map.feature(1, 0, 1), 6);
    for (int n = 0; n < 4; n++) map.undo();
    Feeder.due("as it was", map.size(1, 0), 3);
    Feeder.due("dropped", map.feature(1, 0, 0), NO_FEATURE);
    Feeder.due("there", map.feature(1, 1, 1), 9);
  }

  private static void laidStays() {
    LandMap map = new LandMap();
    Feeder.read(map, 0, "5:" + SQUARE + "2:L(0 20,8 20)");
    Feeder.read(map, 1, "7:A(4 4,12 4,12 12,4 12,4 4)");
    map.lay(0, 1);
    StringBuilder before = new StringBuilder();
    Twins.land(before, map);
    map.revalue(0, 0, 50);
    map.revalue(0, 1, 60);
    map.revalue(1, 0, 70);
    Feeder.move(map, 0, 0, 0, 0, -9, -9);
    map.drop(1, 0);
    map.drop(0, 0);
    Feeder.read(map, 0, "1:A(1 1,2 1,2 2,1 1)");
    map.overlay(0, 1, true);
    Feeder.due("the value as it was laid", map.feature(0, 0, 1), 5);
    map.undo();
    map.overlay(1, 0, true);
    Feeder.due("of b too", map.feature(1, 2, 1), 7);
    Feeder.due("a road's weight too", Feeder.route(map, 0, 20, 8, 20), 16);
    map.raster(1, 9, 9);
    Feeder.due("a cell too", map.cell(0, 1, 1), 5);
    StringBuilder after = new StringBuilder();
    Twins.land(after, map);
    Feeder.due("what is laid stays", after.toString().equals(before.toString()), true);
    for (int n = 0; n < 30; n++) map.undo();
    StringBuilder undone = new StringBuilder();
    Twins.land(undone, map);
    Feeder.due("undo() leaves what is laid", undone.toString().equals(before.toString()), true);
    Feeder.due("all layers are empty", map.size(0, 0) + map.size(1, 0), 0);
    Feeder.due("lay", map.lay(0, 1), 0);
    Feeder.due("nothing is left of it", map.laid(0), 0);
  }

  private static void notTakenBack() {
    LandMap map = new LandMap();
    Feeder.read(map, 0, "3:" + SQUARE + "1:L(0 20,8 20,16 20)");
    map.lay(0, -1);
    map.corner(1, 1);
    map.raster(1, 3, 3);
    Feeder.bar(map, 0, 20, 8, 20, 16, 20);
    Feeder.due("route", Feeder.route(map, 0, 20, 8, 20), 8);
    Feeder.read(map, 1, "P(1 1)");
    map.other(1, 0);
    Feeder.read(map, 1, "x");
    map.spot(3, 3);
    map.feed(0x50283720, 0x37292020, 0x20202020, 0x20202020, 0x20202020);
    Feeder.due("undo", map.undo(), 1);
    Feeder.due("undo", map.undo(), 0);
    Feeder.due("the way stays", map.routeNode(1) >= 0, true);
    Feeder.due("the place of a fault stays", map.place(), 0);
    Feeder.due("spots stay", map.spot(4, 4), 2);
    Feeder.due("the tray stays", map.feed(0x20202020, 0x20202020, 0x20202020, 0x20202020, 0x20202020), 40);
    Feeder.due("read it", map.read(0), 1);
    Feeder.due("at", map.at(0, 0, 0, 0, 0), 7);
    Feeder.due("rasters stay", map.cell(0, 0, 0), 3);
    Feeder.due("their count stays", map.raster(1, 1, 1), 1);
    Feeder.due("the corner stays", map.cell(1, 0, 0), 3);
    map.move(0, 0, 0, 0);
    Feeder.due("bars stay", Feeder.route(map, 0, 20, 16, 20), -3);
    Feeder.due("their count stays", Feeder.bar(map, 1, 1, 2, 2, 3, 3), 2);
    Feeder.due("the other one stays a number", map.relate(0, 0, 0, 0), -14);
    Feeder.read(map, 1, "P(7 7)");
    Feeder.due("whatever bears it", map.relate(0, 0, 0, 0), 0);
  }

  private static void codesInOrder() {
    LandMap map = new LandMap();
    Feeder.due("-14 before -1", Feeder.read(map, 12, "x"), -14);
    Feeder.due("-14 before -2", Feeder.read(map, -1, "L(0 0,0 0)"), -14);
    Feeder.due("-1 before -2", Feeder.read(map, 0, "L(0 0,0 0)x"), -1);
    Feeder.due("-2 before -12", Feeder.read(map, 0, points(200) + "L(0 0,0 0)"), -2);
    Feeder.due("the feature that breaks it", map.broken(), 200);
    Feeder.due("-1 before -12", Feeder.read(map, 0, points(201) + "x"), -1);
    Feeder.due("its place", map.place(), 201 * 6);
    Feeder.due("-12", Feeder.read(map, 0, points(201)), -12);
    Feeder.due("-14 before -13", map.overlay(12, 0, false), -14);
    Feeder.due("-14 before -13", map.overlay(0, 4, true), -14);
    Feeder.due("-13", map.overlay(0, 3, true), -13);
    Feeder.due("-14 before -13", map.laid(6), -14);
    Feeder.due("-13 before a piece's number", map.piece(-1, 0), -13);
    Feeder.due("-14 before -13", map.piece(-1, 6), -14);
    Feeder.due("-13 before a face's number", map.face(-1, 0), -2);
    Feeder.due("-14 before -13", map.face(-1, -1), -3);
    Feeder.due("-13", map.strays(), -13);
    Feeder.due("-14 before -13", map.raster(0, 1, 1), -14);
    Feeder.due("-13", map.raster(1, 1, 1), -13);
    Feeder.due("-14 before -13", map.route(), -14);
    Feeder.due("-13 before -1", Feeder.route(map, 0, 0, 1, 1), -13);
    Feeder.due("-13", map.locate(0, 0), -1000000);
    Feeder.due("-13", map.node(0, 0), 1000000);
  }
}
