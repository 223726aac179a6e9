import java.util.Random;

/** Term 3: a call that is refused changes nothing but what tells of it; nor does one that only asks. */
public final class RefusedCallsTest {
  private static final int MOST = Integer.MAX_VALUE;
  private static final int LEAST = Integer.MIN_VALUE;
  private static final String SQUARE = "A(0 0,8 0,8 8,0 8,0 0)";

  public static void main(String[] args) {
    int rounds = args.length > 0 ? Integer.parseInt(args[0]) : 150;
    long seed = args.length > 1 ? Long.parseLong(args[1]) : 1;
    texts();
    moves();
    otherCalls();
    onANewMap();
    fullLayer();
    fullLife();
    tooMuchToLay();
    for (int round = 0; round < rounds; round++) randomCalls(new Random(seed * 86028121 + round));
    Feeder.finish("RefusedCallsTest");
  }

  /** Layers, states, something laid, rasters, a bar, a way, another one and a corner. */
  private static void past(LandMap map) {
    Feeder.read(map, 0, "4:" + SQUARE + "(2 2,3 2,2 3,2 2)5:L(0 0,4 4,12 4)P(1 1)");
    Feeder.read(map, 1, "6:A(4 4,12 4,12 12,4 12,4 4)7:P(9 9)");
    map.drop(0, 2);
    map.revalue(1, 1, 8);
    map.lay(0, 1);
    map.overlay(2, 1, true);
    map.overlay(3, 3, true);
    map.undo();
    map.other(1, 0);
    map.corner(1, 1);
    map.raster(2, 4, 3);
    map.raster(1, 2, 2);
    Feeder.algebra(map, "a+1");
    Feeder.bar(map, 0, 0, 4, 4, 8, 4);
    Feeder.route(map, 0, 0, 4, 4);
  }

  private static void pastWithTray(LandMap map) {
    past(map);
    map.feed(0x50283320, 0x33292020, 0x20202020, 0x20202020, 0x20202020);
  }

  private static void pastWithAll(LandMap map) {
    pastWithTray(map);
    map.spot(2, 2);
    map.spot(3, 3);
  }

  private static void pastWithSpots(LandMap map) {
    past(map);
    map.spot(2, 2);
  }

  private static void texts() {
    int told = Twins.PLACE | Twins.RULE;
    String[] faults = {"", " ", "x", "P(1 1", "P(1 1)P(2 2)P(3", "P(500001 0)", SQUARE + "P(1 1234567890)"};
    for (String text : faults) {
      Twins.refused("read " + text, RefusedCallsTest::pastWithSpots, map -> Feeder.read(map, 0, text), -1, told);
    }
    String[] broken = {"L(1 1,1 1)", "P(1 1)A(0 0,1 1,0 0)", SQUARE + SQUARE + "(9 9,10 9,9 10,9 9)"};
    for (String text : broken) {
      Twins.refused("read " + text, RefusedCallsTest::pastWithSpots, map -> Feeder.read(map, 1, text), -2, told);
    }
    for (int layer : new int[] {-1, 12, LEAST, MOST}) {
      Twins.refused("read " + layer, RefusedCallsTest::pastWithSpots, map -> Feeder.read(map, layer, "P(1 1)"), -14, told);
    }
    Twins.refused("198 more", RefusedCallsTest::pastWithSpots, map -> Feeder.read(map, 0, "P(1 1)".repeat(198)), -12, told);
    String[] formulas = {"", "1", "a+", "a+b", "a+z", "at(a,51,0)", "(".repeat(41) + "a" + ")".repeat(41)};
    for (String text : formulas) {
      Twins.refused("algebra " + text, RefusedCallsTest::pastWithSpots, map -> Feeder.algebra(map, text), -1, Twins.PLACE);
    }
    Twins.refused("end above", RefusedCallsTest::pastWithAll, map -> map.end(21) ? 1 : 0, 0, 0);
    Twins.refused("end below", RefusedCallsTest::pastWithAll, map -> map.end(-1) ? 1 : 0, 0, 0);
    Twins.refused("feed", map -> {
      past(map);
      map.spot(1, 1);
      for (int n = 0; n < 799; n++) map.feed(0x20202020, 0x20202020, 0x20202020, 0x20202020, 0x20202020);
      map.feed(0x20202020, 0x50283120, 0x31292020, 0x20202020, 0x20202020);
    }, map -> map.feed(1, 2, 3, 4, 5), -1, 0);
  }

  private static void moves() {
    int[][] none = {{12, 0, 0, 0}, {-1, 0, 0, 0}, {0, 2, 0, 0}, {0, 3, 0, 0}, {0, -1, 0, 0}, {0, 0, 2, 0}, {0, 0, -1, 0}, {0, 0, 0, 5},
        {0, 0, 0, -1}, {4, 0, 0, 0}, {LEAST, MOST, LEAST, MOST}};
    for (int[] n : none) {
      Twins.refused("move", RefusedCallsTest::pastWithTray, map -> Feeder.move(map, n[0], n[1], n[2], n[3], 1, 1), -14, Twins.RULE);
    }
    for (int many : new int[] {0, 2, 3}) {
      Twins.refused("move by " + many, RefusedCallsTest::pastWithTray, map -> {
        for (int n = 0; n < many; n++) map.spot(1, 1);
        return map.move(0, 0, 0, 0);
      }, -14, Twins.RULE);
    }
    int[][] broken = {{0, 0, 1, 0, 0}, {0, 0, 2, 4, 0}, {0, 1, 1, 9, 2}, {1, 0, 1, 0, 0}};
    for (int[] b : broken) {
      Twins.refused("move", RefusedCallsTest::pastWithTray, map -> Feeder.move(map, 0, b[0], b[1], b[2], b[3], b[4]), -2, Twins.RULE);
    }
  }

  private static void otherCalls() {
    refused("spot beyond", map -> map.spot(500001, 0), -1);
    refused("spot beyond", map -> map.spot(0, LEAST), -1);
    refused("drop", map -> map.drop(0, 2), -14);
    refused("drop", map -> map.drop(12, 0), -14);
    refused("revalue", map -> map.revalue(0, 2, 5), -14);
    refused("revalue", map -> map.revalue(-1, 0, 5), -14);
    refused("lay", map -> map.lay(12, 0), -14);
    refused("lay", map -> map.lay(0, 12), -14);
    refused("lay", map -> map.lay(0, -2), -14);
    refused("overlay", map -> map.overlay(12, 0, true), -14);
    refused("overlay", map -> map.overlay(0, 4, true), -14);
    refused("other", map -> map.other(0, 2) ? 1 : 0, 0);
    refused("other", map -> map.other(12, 0) ? 1 : 0, 0);
    refused("corner", map -> map.corner(0, 500001) ? 1 : 0, 0);
    refused("raster", map -> map.raster(0, 1, 1), -14);
    refused("raster", map -> map.raster(1, 51, 1), -14);
    refused("spread", map -> map.spread(0, 3), -14);
    refused("spread", map -> map.spread(0, 1), -1);
    refused("relate", map -> map.relate(0, 2, 0, 0), -14);
    refused("relate", map -> map.relate(0, 0, 3, 0), -14);
    refused("relation", map -> map.relation(0, 0, 7), -14);
    // What only asks changes nothing either.
    refused("relate", map -> map.relate(0, 0, 0, 0), 2);
    refused("relation", map -> map.relation(0, 0, 5), 1);
    refused("strays", LandMap::strays, 0);
    refused("locate", map -> map.locate(7, 1), 2);
    refused("size", map -> map.size(0, 0), 3);
    refused("place", LandMap::place, -1);
    refused("length", map -> map.length(0, 1), 13);
    Twins.refused("bar", RefusedCallsTest::pastWithTray, map -> Feeder.bar(map, 1, 1, 2, 2), -14, 0);
    Twins.refused("barred already", RefusedCallsTest::pastWithTray, map -> Feeder.bar(map, 0, 0, 4, 4, 8, 4), 1, 0);
    Twins.refused("bar", RefusedCallsTest::pastWithTray, map -> Feeder.bar(map, 1, 1), -14, 0);
    Twins.refused("route", RefusedCallsTest::pastWithTray, map -> Feeder.route(map, 0, 0, 1, 1), -1, Twins.WAY);
    Twins.refused("route", RefusedCallsTest::pastWithTray, LandMap::route, -14, Twins.WAY);
    Twins.refused("undo", map -> {
      past(map);
      for (int n = 0; n < 30; n++) map.undo();
    }, LandMap::undo, -3, 0);
  }

  private static void refused(String name, Twins.Call call, long code) {
    Twins.refused(name, RefusedCallsTest::pastWithAll, call, code, 0);
  }

  private static void onANewMap() {
    Twins.Past none = map -> { };
    Twins.refused("undo", none, LandMap::undo, -3, 0);
    Twins.refused("overlay", none, map -> map.overlay(0, 0, false), -13, 0);
    Twins.refused("raster", none, map -> map.raster(1, 1, 1), -13, 0);
    Twins.refused("route", none, map -> Feeder.route(map, 0, 0, 0, 0), -13, 0);
    Twins.refused("read", none, map -> map.read(0), -1, Twins.PLACE);
    Twins.refused("algebra", none, LandMap::algebra, -1, Twins.PLACE);
    Twins.refused("strays", none, LandMap::strays, -13, 0);
    Twins.refused("relate", none, map -> map.relate(0, 0, 0, 0), -14, 0);
  }

  private static void fullLayer() {
    Twins.Past full = map -> {
      past(map);
      Feeder.read(map, 1, "P(1 1)".repeat(198));
    };
    Twins.refused("a 201st feature", full, map -> Feeder.read(map, 1, "P(1 1)"), -12, 0);
    Twins.refused("-2 before it", full, map -> Feeder.read(map, 1, "L(1 1,1 1)"), -2, Twins.RULE);
  }

  private static void fullLife() {
    StringBuilder line = new StringBuilder("L(0 0");
    for (int i = 1; i < 2000; i++) line.append(i % 2 == 0 ? ",0 0" : ",1 0");
    Twins.Past full = map -> {
      Feeder.read(map, 0, line + ")");
      for (int n = 1; n < 30; n++) Feeder.move(map, 0, 0, 0, 0, 5, n);
      Feeder.due("no room", Feeder.read(map, 1, "P(1 1)"), -12);
      map.lay(0, -1);
    };
    Twins.refused("a 60001st place", full, map -> Feeder.read(map, 1, "P(1 1)"), -12, 0);
    Twins.refused("by a move", full, map -> Feeder.move(map, 0, 0, 0, 0, 7, 7), -12, 0);
  }

  private static void tooMuchToLay() {
    StringBuilder across = new StringBuilder("L");
    StringBuilder up = new StringBuilder("L");
    for (int i = 0; i < 80; i++) {
      across.append("(-1 " + 3 * i + ",300 " + 3 * i + ")");
      up.append("(" + 3 * i + "-1," + 3 * i + " 300)");
    }
    Twins.Past past = map -> {
      past(map);
      Feeder.read(map, 6, across.toString());
      Feeder.read(map, 7, up.toString());
      map.other(7, 0);
      Feeder.route(map, 0, 0, 4, 4);
    };
    Twins.refused("lay", past, map -> map.lay(6, 7), -12, 0);
    Twins.refused("relate", past, map -> map.relate(6, 0, 0, 0), -12, 0);
    Twins.refused("relation", past, map -> map.relation(6, 0, 0), -12, 0);
  }

  /** One map gets every call, the other one only those that changed something. */
  private static void randomCalls(Random random) {
    LandMap map = new LandMap();
    LandMap twin = new LandMap();
    int reach = 2 + random.nextInt(12);
    for (int n = 0; n < 300; n++) {
      int kind = random.nextInt(24);
      long state = random.nextLong();
      long got = change(map, kind, new Random(state), reach);
      if (got >= 0) {
        Feeder.due("call " + kind + " without those that were refused", change(twin, kind, new Random(state), reach), got);
      } else if (kind < 7) {
        twin.end(0);
      } else if (kind < 12) {
        twin.move(-1, 0, 0, 0);
      }
      ask(map, random, reach);
    }
    int told = Twins.PLACE | Twins.RULE | Twins.WAY;
    Feeder.due("both have the same past", Twins.trace(map, told).equals(Twins.trace(twin, told)), true);
  }

  private static int number(Random random, int bound) {
    return random.nextInt(9) == 0 ? random.nextInt(3 * bound + 2) - bound - 1 : random.nextInt(bound);
  }

  /** A call that may change something; kinds below 7 use up the tray, those below 12 the spots. Below 0: refused. */
  private static long change(LandMap map, int kind, Random random, int reach) {
    int layer = number(random, 3);
    int f = number(random, 4);
    int x = random.nextInt(2 * reach + 1) - reach;
    int y = random.nextInt(2 * reach + 1) - reach;
    switch (kind) {
      case 0: case 1: case 2: return Feeder.read(map, layer, Shapes.any(random, reach).text());
      case 3: return Feeder.read(map, layer, Feeder.spoil(random, Shapes.any(random, reach).text(), "PLA(),:- 019", 1));
      case 4: return Feeder.algebra(map, "or(a,1)");
      case 5: return Feeder.algebra(map, Feeder.spoil(random, "sum(a,1)+(b?2:c)*at(a,1,-1)", "abc()?:+*,1-", 1));
      case 6: return map.read(layer);
      case 7: return Feeder.move(map, layer, f, number(random, 2), number(random, 3), x, y);
      case 8: return Feeder.bar(map, x, y, y, x, x, x);
      case 9: return Feeder.route(map, map.node(f, 0), map.node(f, 1), map.node(0, 0), map.node(0, 1));
      case 10: return map.bar();
      case 11: return map.move(layer, f, 0, 0);
      case 12: return map.spot(x, y);
      case 13: return map.drop(layer, f);
      case 14: return map.revalue(layer, f, x);
      case 15: return map.undo();
      case 16: case 17: return map.lay(layer, number(random, 4) - 1);
      case 18: case 19: return map.overlay(number(random, 5), number(random, 4), random.nextBoolean());
      case 20: return map.other(layer, f) ? 0 : -1;
      case 21: return map.corner(random.nextInt(9) == 0 ? 500001 : x, y) ? 0 : -1;
      case 22: return map.raster(number(random, 3), number(random, 5), number(random, 5));
      default: return map.spread(number(random, 3), number(random, 3));
    }
  }

  private static void ask(LandMap map, Random random, int reach) {
    int layer = number(random, 3);
    int f = number(random, 4);
    switch (random.nextInt(8)) {
      case 0: map.relate(layer, f, number(random, 3), number(random, 3)); break;
      case 1: map.relation(layer, f, number(random, 7)); break;
      case 2: map.locate(random.nextInt(reach), random.nextInt(reach)); break;
      case 3: map.strays(); break;
      case 4: map.area2(layer, f); break;
      case 5: map.face(f, number(random, 6)); break;
      case 6: map.cell(f, 0, 0); break;
      default: map.length(layer, f);
    }
  }
}
