import java.util.Random;

/** Runs of 512 random calls with right and wrong numbers: none throws, and codes are those of the document. */
public final class RandomCallsTest {
  private static final int[] ODD = {Integer.MIN_VALUE, Integer.MIN_VALUE + 1, -500001, -500000, -14, -2, -1, 0, 1, 2, 3, 5, 11,
      12, 39, 40, 50, 51, 199, 200, 500000, 500001, 65536, Integer.MAX_VALUE - 1, Integer.MAX_VALUE};

  public static void main(String[] args) {
    int rounds = args.length > 0 ? Integer.parseInt(args[0]) : 400;
    long seed = args.length > 1 ? Long.parseLong(args[1]) : 1;
    for (int round = 0; round < rounds; round++) {
      Random random = new Random(seed * 49979687 + round);
      LandMap map = new LandMap();
      LandMap twin = new LandMap();
      int reach = 2 + random.nextInt(20);
      for (int n = 0; n < 512; n++) {
        long state = random.nextLong();
        long got = call(map, new Random(state), reach);
        long again = call(twin, new Random(state), reach);
        Feeder.due("the same call again", again, got);
      }
      usedAndFresh(map, random);
    }
    Feeder.finish("RandomCallsTest");
  }

  /** A map with a long past answers as a new one with the same features does. */
  private static void usedAndFresh(LandMap used, Random random) {
    LandMap fresh = new LandMap();
    for (int layer = 0; layer < 5; layer++) copy(used, fresh, layer);
    for (int n = 0; n < 3; n++) {
      int a = random.nextInt(5);
      int b = random.nextInt(6) - 1;
      Feeder.due("lay", used.lay(a, b), fresh.lay(a, b));
      boolean same = landOf(used).equals(landOf(fresh));
      Feeder.due("what is laid by a used map", same, true);
      for (int k = 0; k < 4; k++) {
        boolean split = random.nextBoolean();
        Feeder.due("overlay", used.overlay(7, k, split), fresh.overlay(7, k, split));
        Feeder.due("its features", layersOf(used).equals(layersOf(fresh)), true);
      }
      used.other(b, 0);
      fresh.other(b, 0);
      if (used.size(b, 1) > 0 && used.feature(b, 0, 0) >= 0) {
        for (int i = 0; i < 9; i++) Feeder.due("relate", used.relate(a, 0, i / 3, i % 3), fresh.relate(a, 0, i / 3, i % 3));
      }
    }
  }

  private static void copy(LandMap used, LandMap fresh, int layer) {
    for (int f = 0; f < used.size(layer, 0); f++) {
      Feeder.Shape shape = Feeder.shapeOf(used, layer, f);
      int value = shape == null ? 0 : shape.value;
      if (shape != null) shape.value = 0;
      Feeder.due("read again", Feeder.read(fresh, layer, shape == null ? "P(0 0)" : shape.text()), 1);
      if (shape == null) fresh.drop(layer, f);
      else fresh.revalue(layer, f, value);
    }
  }

  private static String landOf(LandMap map) {
    StringBuilder out = new StringBuilder();
    Twins.land(out, map);
    return out.toString();
  }

  private static String layersOf(LandMap map) {
    StringBuilder out = new StringBuilder();
    for (int f = 0; f < map.size(7, 0); f++) out.append(Feeder.shapeOf(map, 7, f).text());
    return out.toString();
  }

  private static int n(Random random, int bound) {
    return random.nextInt(12) == 0 ? ODD[random.nextInt(ODD.length)] : random.nextInt(bound);
  }

  private static int place(Random random, int reach) {
    return random.nextInt(40) == 0 ? ODD[random.nextInt(ODD.length)] : random.nextInt(2 * reach + 1) - reach;
  }

  private static long call(LandMap map, Random random, int reach) {
    int layer = n(random, 3);
    int f = n(random, 5);
    int what = n(random, 6);
    int x = place(random, reach);
    int y = place(random, reach);
    switch (random.nextInt(48)) {
      case 0: return map.feed(random.nextInt(), x, y, what, f);
      case 1: return map.end(n(random, 40)) ? 1 : 0;
      case 2: case 3: case 4: return Feeder.read(map, layer, Shapes.any(random, reach).text());
      case 5: return map.read(layer);
      case 6: return map.place();
      case 7: return map.rule();
      case 8: return map.broken();
      case 9: return map.size(layer, n(random, 2));
      case 10: return map.feature(layer, f, n(random, 4));
      case 11: return map.at(layer, f, n(random, 2), n(random, 4), n(random, 2));
      case 12: return map.area2(layer, f);
      case 13: return map.length(layer, f);
      case 14: case 15: case 16: case 17: return map.spot(x, y);
      case 18: return map.move(layer, f, n(random, 2), n(random, 4));
      case 19: return map.drop(layer, f);
      case 20: return map.revalue(layer, f, n(random, 9));
      case 21: return map.undo();
      case 22: case 23: return map.lay(layer, random.nextInt(5) == 0 ? -1 : n(random, 3));
      case 24: return map.laid(what);
      case 25: return map.node(n(random, 20), n(random, 3));
      case 26: return map.piece(n(random, 30), what);
      case 27: return map.face(n(random, 9), what);
      case 28: return map.faceArea2(n(random, 9));
      case 29: return map.locate(x, y);
      case 30: case 31: return map.overlay(n(random, 5), n(random, 4), random.nextBoolean());
      case 32: return map.other(layer, f) ? 1 : 0;
      case 33: return map.relate(layer, f, n(random, 3), n(random, 3));
      case 34: return map.relation(layer, f, n(random, 7));
      case 35: return map.bar();
      case 36: return route(map, random);
      case 37: return map.routeNode(n(random, 5));
      case 38: return map.corner(x, y) ? 1 : 0;
      case 39: return map.raster(n(random, 5), n(random, 12), n(random, 12));
      case 40: return map.cell(n(random, 5), n(random, 12), n(random, 12));
      case 41: return map.rasterSize(n(random, 5), n(random, 3));
      case 42: return Feeder.algebra(map, "sum(a,1)+b*(c?1:d)");
      case 43: return map.algebra();
      case 44: return map.spread(n(random, 4), n(random, 4));
      case 45: return map.strays();
      case 46: return map.route();
      default: return Feeder.bar(map, x, y, place(random, reach), place(random, reach), x, y);
    }
  }

  private static long route(LandMap map, Random random) {
    int nodes = Math.max(1, map.laid(0));
    int a = random.nextInt(nodes);
    int b = random.nextInt(nodes);
    return Feeder.route(map, map.node(a, 0), map.node(a, 1), map.node(b, 0), map.node(b, 1));
  }
}
