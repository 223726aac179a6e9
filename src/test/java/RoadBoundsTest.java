/** Term 7, promises 13 and 29 to 31: closed and heavy roads, barred turns, a way to where it begins. */
public final class RoadBoundsTest {
  private static final int MOST = Integer.MAX_VALUE;
  private static final int LEAST = Integer.MIN_VALUE;

  public static void main(String[] args) {
    weights();
    leastOfLines();
    dear();
    whatIsNoRoad();
    toItself();
    spots();
    turns();
    hundredBars();
    barsStay();
    evenWays();
    routeNodes();
    refusedOnes();
    Feeder.finish("RoadBoundsTest");
  }

  private static LandMap roads(String a, String b) {
    LandMap map = new LandMap();
    Feeder.due("read " + a, Feeder.read(map, 0, a) > 0, true);
    if (!b.isEmpty()) Feeder.read(map, 1, b);
    map.lay(0, 1);
    return map;
  }

  /** The nodes of the way that was found last, as x y, .. */
  private static void due(LandMap map, String want) {
    StringBuilder out = new StringBuilder();
    for (int k = 0; map.routeNode(k) >= 0; k++) {
      int n = map.routeNode(k);
      out.append(k == 0 ? "" : ", ").append(map.node(n, 0)).append(' ').append(map.node(n, 1));
    }
    Feeder.due("way " + out + " for " + want, out.toString().equals(want), true);
  }

  private static void weights() {
    LandMap map = new LandMap();
    Feeder.read(map, 0, "L(0 0,3 4)");
    int[] values = {LEAST, -1, 0, 1, 2, 999999, 1000000, 1000001, 2000000, MOST};
    long[] costs = {-3, -3, -3, 5, 10, 4999995, 5000000, 5000000, 5000000, 5000000};
    for (int i = 0; i < values.length; i++) {
      map.revalue(0, 0, values[i]);
      map.lay(0, -1);
      Feeder.due("weight " + values[i], Feeder.route(map, 0, 0, 3, 4), costs[i]);
      due(map, costs[i] < 0 ? "" : "0 0, 3 4");
      Feeder.due("back", Feeder.route(map, 3, 4, 0, 0), costs[i]);
    }
    // LENGTH is cut for each piece before it is weighed.
    LandMap cut = roads("10:L(0 0,1 1,2 2)", "");
    Feeder.due("1 and 1, each by 10", Feeder.route(cut, 0, 0, 2, 2), 20);
    LandMap whole = roads("10:L(0 0,2 2)", "");
    Feeder.due("2 by 10", Feeder.route(whole, 0, 0, 2, 2), 20);
    LandMap three = roads("10:L(0 0,3 3)", "P(1 1)");
    Feeder.due("1 and 2, each by 10", Feeder.route(three, 0, 0, 3, 3), 30);
  }

  private static void leastOfLines() {
    int[][] due = {{5, 7, 5}, {7, 5, 5}, {0, 5, -3}, {5, 0, -3}, {-4, 5, -3}, {1000001, 7, 7}, {1, 1000001, 1}};
    for (int[] d : due) {
      LandMap map = roads(d[0] + ":L(0 0,1 0)" + d[1] + ":L(1 0,0 0)", "");
      Feeder.due("least of " + d[0] + " and " + d[1], Feeder.route(map, 0, 0, 1, 0), d[2]);
    }
    LandMap map = roads("3000000:L(0 0,1 0)2000000:L(1 0,0 0)", "");
    Feeder.due("both above a million", Feeder.route(map, 0, 0, 1, 0), 1000000);
    // A dropped line is no road; areas of a and lines of b on the same piece do not count.
    LandMap other = roads("1:L(0 0,8 0)6:L(0 0,8 0)2:A(0 0,8 0,8 8,0 0)", "1:L(0 0,8 0)");
    other.drop(0, 0);
    other.lay(0, 1);
    Feeder.due("the line that is left", Feeder.route(other, 0, 0, 8, 0), 48);
    other.drop(0, 1);
    Feeder.due("as it was laid", Feeder.route(other, 0, 0, 8, 0), 48);
    other.lay(0, 1);
    Feeder.due("no line is left", Feeder.route(other, 0, 0, 8, 0), -1);
  }

  private static void dear() {
    LandMap map = roads("999999999:L(-500000-500000,500000 500000,-500000 500000,500000-500000)", "");
    Feeder.due("costs above all ints", Feeder.route(map, -500000, -500000, 500000, -500000),
        (707106L + 707106L) * 1000000);
    Feeder.due("over the midst", map.routeNode(1) >= 0 && map.node(map.routeNode(1), 0) == 0, true);
  }

  private static void whatIsNoRoad() {
    LandMap map = roads("1:L(0 0,4 0)0:L(4 0,8 0)P(20 20)1:A(30 30,34 30,30 34,30 30)1:L(50 50,54 50)", "1:L(0 0,0 9)P(2 0)P(6 5)");
    Feeder.due("a closed road's node", Feeder.route(map, 0, 0, 8, 0), -3);
    Feeder.due("from it", Feeder.route(map, 8, 0, 0, 0), -3);
    Feeder.due("as far as it is open", Feeder.route(map, 0, 0, 4, 0), 4);
    due(map, "0 0, 2 0, 4 0");
    Feeder.due("apart", Feeder.route(map, 0, 0, 54, 50), -3);
    int[][] none = {{20, 20}, {30, 30}, {34, 30}, {0, 9}, {6, 5}, {1, 0}, {100, 100}, {500000, -500000}};
    for (int[] p : none) {
      Feeder.due("no node of a road", Feeder.route(map, 0, 0, p[0], p[1]), -1);
      Feeder.due("no node of a road", Feeder.route(map, p[0], p[1], 0, 0), -1);
      Feeder.due("nor to itself", Feeder.route(map, p[0], p[1], p[0], p[1]), -1);
      Feeder.due("no way", map.routeNode(0), -1);
    }
    Feeder.due("a place of b that parts a road", Feeder.route(map, 2, 0, 4, 0), 2);
  }

  private static void toItself() {
    LandMap map = roads("5:L(0 0,4 0)0:L(8 0,12 0)", "");
    for (int x = 0; x <= 12; x += 4) {
      Feeder.due("to itself", Feeder.route(map, x, 0, x, 0), 0);
      due(map, x + " 0");
      Feeder.due("that node alone", map.routeNode(1), -1);
    }
    Feeder.due("three times one place", Feeder.bar(map, 0, 0, 0, 0, 0, 0), 1);
    Feeder.due("there and back", Feeder.bar(map, 0, 0, 4, 0, 0, 0), 2);
    Feeder.due("with bars too", Feeder.route(map, 0, 0, 0, 0), 0);
    Feeder.due("there", Feeder.route(map, 0, 0, 4, 0), 20);
  }

  private static void spots() {
    LandMap map = roads("1:L(0 0,4 0)", "");
    for (int many = 0; many < 4; many++) {
      for (int n = 1; n <= many; n++) Feeder.due("spot", map.spot(4 * (n % 2), 0), n);
      Feeder.due("route by " + many, map.route(), many == 2 ? 4 : -14);
      Feeder.due("used up", map.spot(0, 0), 1);
      map.bar();
      for (int n = 1; n <= many; n++) Feeder.due("spot", map.spot(n, 0), n);
      Feeder.due("bar by " + many, map.bar(), many == 3 ? 1 : -14);
      Feeder.due("used up", map.spot(0, 0), 1);
      map.route();
    }
    for (int n = 1; n <= 3; n++) map.spot(n, n);
    Feeder.due("a fourth", map.spot(4, 4), -1);
    Feeder.due("one out of bounds", map.spot(500001, 4), -1);
    Feeder.due("three are there", map.bar(), 2);
    Feeder.due("out of bounds", map.spot(0, -500001), -1);
    Feeder.due("the first", map.spot(0, -500000), 1);
    Feeder.due("move uses it up", map.move(12, 0, 0, 0), -14);
    Feeder.due("the first", map.spot(0, 0), 1);
    // Other calls leave the spots alone.
    map.lay(0, -1);
    map.read(0);
    map.algebra();
    map.undo();
    map.locate(0, 0);
    Feeder.due("the second", map.spot(4, 0), 2);
    Feeder.due("route", map.route(), 4);
  }

  private static void turns() {
    // A cross of roads: the turn from the left to the right is barred, not the one back.
    LandMap map = roads("1:L(0 0,10 0)1:L(10 0,20 0)1:L(10 0,10 10)", "");
    Feeder.due("bar", Feeder.bar(map, 0, 0, 10, 0, 20, 0), 1);
    Feeder.due("round the end of the third road", Feeder.route(map, 0, 0, 20, 0), 40);
    due(map, "0 0, 10 0, 10 10, 10 0, 20 0");
    Feeder.due("the other way", Feeder.route(map, 20, 0, 0, 0), 20);
    Feeder.due("to the midst", Feeder.route(map, 0, 0, 10, 0), 10);
    Feeder.due("from the midst", Feeder.route(map, 10, 0, 20, 0), 10);
    Feeder.due("a turn back is a turn", Feeder.bar(map, 10, 0, 10, 10, 10, 0), 2);
    Feeder.due("no way", Feeder.route(map, 0, 0, 20, 0), -3);
    Feeder.due("no nodes", map.routeNode(0), -1);
    // Bars of places that are no nodes, or no roads, bar nothing.
    LandMap free = roads("1:L(0 0,10 0)1:L(10 0,20 0)", "");
    Feeder.bar(free, 1, 0, 10, 0, 20, 0);
    Feeder.bar(free, 0, 0, 10, 1, 20, 0);
    Feeder.bar(free, 0, 0, 10, 0, 19, 0);
    Feeder.bar(free, 20, 0, 10, 0, 0, 0);
    Feeder.bar(free, 0, 0, 20, 0, 10, 0);
    Feeder.due("free", Feeder.route(free, 0, 0, 20, 0), 20);
    // A bar takes effect once its places are nodes that follow one another.
    LandMap later = roads("1:L(0 0,20 0)", "");
    Feeder.bar(later, 0, 0, 10, 0, 20, 0);
    Feeder.due("one road", Feeder.route(later, 0, 0, 20, 0), 20);
    Feeder.read(later, 1, "P(10 0)");
    later.lay(0, 1);
    Feeder.due("two roads with a barred turn", Feeder.route(later, 0, 0, 20, 0), -3);
    later.lay(0, -1);
    Feeder.due("one road again", Feeder.route(later, 0, 0, 20, 0), 20);
    // Places are barred, not the numbers of nodes.
    Feeder.read(later, 2, "1:L(100 0,110 0,120 0)");
    later.lay(0, 1);
    Feeder.due("barred", Feeder.route(later, 0, 0, 20, 0), -3);
    later.lay(2, -1);
    Feeder.due("other places", Feeder.route(later, 100, 0, 120, 0), 20);
  }

  private static void hundredBars() {
    LandMap map = new LandMap();
    for (int n = 1; n <= 99; n++) Feeder.due("bar", Feeder.bar(map, n, 0, 0, 0, 0, 0), n);
    Feeder.due("barred already", Feeder.bar(map, 50, 0, 0, 0, 0, 0), 99);
    Feeder.due("the 100th", Feeder.bar(map, 0, 0, 0, 0, 1, 0), 100);
    Feeder.due("there are 100", Feeder.bar(map, 0, 0, 1, 0, 0, 0), -12);
    Feeder.due("-14 before -12", Feeder.bar(map, 0, 0, 1, 0), -14);
    Feeder.due("there are 100 still", Feeder.bar(map, 0, 0, 1, 0, 0, 0), -12);
    Feeder.due("one that is barred already changes nothing", Feeder.bar(map, 0, 0, 0, 0, 1, 0), 100);
    // The 101st bars nothing, the 100th does.
    Feeder.read(map, 0, "1:L(0 0,1 0)1:L(0 0,0 1)");
    map.lay(0, -1);
    Feeder.due("the turn back to (0, 0) is free", Feeder.bar(map, 0, 0, 1, 0, 0, 0), -12);
    LandMap full = roads("1:L(0 0,10 0)1:L(10 0,20 0)1:L(0 5,10 5)1:L(10 5,20 5)", "");
    for (int n = 1; n <= 99; n++) Feeder.bar(full, 300, n, 0, 0, 0, 0);
    Feeder.due("the 100th", Feeder.bar(full, 0, 0, 10, 0, 20, 0), 100);
    Feeder.due("the 101st", Feeder.bar(full, 0, 5, 10, 5, 20, 5), -12);
    Feeder.due("barred", Feeder.route(full, 0, 0, 20, 0), -3);
    Feeder.due("not barred", Feeder.route(full, 0, 5, 20, 5), 20);
  }

  private static void barsStay() {
    LandMap map = new LandMap();
    Feeder.due("barred before anything is laid", Feeder.bar(map, 0, 0, 10, 0, 20, 0), 1);
    Feeder.read(map, 0, "1:L(0 0,10 0,20 0)");
    map.lay(0, -1);
    Feeder.due("barred", Feeder.route(map, 0, 0, 20, 0), -3);
    map.undo();
    map.lay(0, -1);
    Feeder.read(map, 3, "1:L(0 0,10 0,20 0)");
    map.lay(3, -1);
    Feeder.due("for all that will be laid", Feeder.route(map, 0, 0, 20, 0), -3);
    Feeder.due("one", Feeder.bar(map, 0, 0, 10, 0, 20, 0), 1);
    Feeder.due("the other way is another turn", Feeder.bar(map, 20, 0, 10, 0, 0, 0), 2);
    Feeder.due("barred too", Feeder.route(map, 20, 0, 0, 0), -3);
  }

  private static void evenWays() {
    // The least cost comes before the fewest roads, these before the least row.
    LandMap few = roads("1:L(0 0,2 0,4 0,10 0)1:L(0 0,0 5,10 5,10 0)2:L(0 0,5-3)1:L(5-3,10 0)", "");
    Feeder.due("least cost", Feeder.route(few, 0, 0, 10, 0), 10);
    due(few, "0 0, 2 0, 4 0, 10 0");
    LandMap roads = roads("1:L(0 0,0 3,4 3,4 0)1:L(0 0,2 0)4:L(2 0,4 0)", "");
    Feeder.due("10 over two roads or three", Feeder.route(roads, 0, 0, 4, 0), 10);
    due(roads, "0 0, 2 0, 4 0");
    // As dear and as many roads: the first unlike node decides, the lesser first.
    LandMap even = roads("1:L(0 0,3 4,6 0)1:L(0 0,3-4,6 0)", "");
    Feeder.due("even", Feeder.route(even, 0, 0, 6, 0), 10);
    due(even, "0 0, 3 -4, 6 0");
    Feeder.due("bar it", Feeder.bar(even, 0, 0, 3, -4, 6, 0), 1);
    Feeder.due("as dear", Feeder.route(even, 0, 0, 6, 0), 10);
    due(even, "0 0, 3 4, 6 0");
    // The first unlike node decides, whatever the next ones are.
    LandMap next = roads("1:L(0 0,2-3,7-3,8 0)1:L(0 0,3 3,6 4,8 0)", "");
    Feeder.due("3 and 5 and 3, or 4 and 3 and 4", Feeder.route(next, 0, 0, 8, 0), 11);
    due(next, "0 0, 2 -3, 7 -3, 8 0");
    Feeder.due("back", Feeder.route(next, 8, 0, 0, 0), 11);
    due(next, "8 0, 6 4, 3 3, 0 0");
  }

  private static void routeNodes() {
    LandMap map = new LandMap();
    for (int k : new int[] {-1, 0, 1, LEAST, MOST}) Feeder.due("none at first", map.routeNode(k), -1);
    Feeder.read(map, 0, "1:L(0 0,4 0,8 0)1:L(20 0,24 0)");
    map.lay(0, -1);
    Feeder.due("route", Feeder.route(map, 8, 0, 0, 0), 8);
    int[] nodes = {2, 1, 0};
    for (int k = 0; k < 3; k++) Feeder.due("node " + k, map.routeNode(k), nodes[k]);
    for (int k : new int[] {-1, 3, LEAST, MOST}) Feeder.due("none", map.routeNode(k), -1);
    // A refused lay() and other calls leave it; a lay() that lays takes it away.
    map.lay(0, 12);
    map.undo();
    map.relate(0, 0, 0, 0);
    map.overlay(1, 0, false);
    map.raster(1, 1, 1);
    Feeder.due("it stays", map.routeNode(2), 0);
    map.lay(3, -1);
    Feeder.due("gone", map.routeNode(0), -1);
    Feeder.read(map, 0, "1:L(0 0,4 0,8 0)1:L(20 0,24 0)");
    map.lay(0, -1);
    long[] answers = {-3, -1};
    int[][] to = {{24, 0}, {7, 7}};
    for (int i = 0; i < 2; i++) {
      Feeder.due("route", Feeder.route(map, 0, 0, 8, 0), 8);
      Feeder.due("found", map.routeNode(0), 0);
      Feeder.due("route", Feeder.route(map, 0, 0, to[i][0], to[i][1]), answers[i]);
      Feeder.due("the latest route() found none", map.routeNode(0), -1);
    }
    Feeder.due("route", Feeder.route(map, 0, 0, 8, 0), 8);
    Feeder.due("route without spots", map.route(), -14);
    Feeder.due("found none", map.routeNode(0), -1);
    Feeder.due("route", Feeder.route(map, 0, 0, 4, 0), 4);
    Feeder.due("lay the same again", map.lay(0, -1), 3);
    Feeder.due("laid since", map.routeNode(0), -1);
  }

  private static void past(LandMap map) {
    Feeder.read(map, 0, "1:L(0 0,4 0,8 0)1:L(20 0,24 0)");
    map.lay(0, -1);
    Feeder.bar(map, 1, 1, 2, 2, 3, 3);
    Feeder.route(map, 0, 0, 8, 0);
  }

  private static void refusedOnes() {
    Twins.refused("bar of two spots", RoadBoundsTest::past, map -> Feeder.bar(map, 1, 1, 2, 2), -14, 0);
    Twins.refused("bar of no spot", RoadBoundsTest::past, LandMap::bar, -14, 0);
    Twins.refused("route of one spot", RoadBoundsTest::past, map -> {
      map.spot(1, 1);
      return map.route();
    }, -14, Twins.WAY);
    Twins.refused("route to no node", RoadBoundsTest::past, map -> Feeder.route(map, 0, 0, 7, 7), -1, Twins.WAY);
    Twins.refused("route without a way", RoadBoundsTest::past, map -> Feeder.route(map, 0, 0, 24, 0), -3, Twins.WAY);
    Twins.refused("a spot out of bounds", RoadBoundsTest::past, map -> map.spot(500001, 0), -1, 0);
    Twins.refused("the 101st bar", map -> {
      past(map);
      for (int n = 0; n < 99; n++) Feeder.bar(map, n + 9, n, 2, 2, 3, 3);
    }, map -> Feeder.bar(map, 0, 0, 4, 0, 8, 0), -12, 0);
    Twins.refused("a fourth spot", map -> {
      past(map);
      for (int n = 0; n < 3; n++) map.spot(n, n);
    }, map -> map.spot(9, 9), -1, 0);
  }
}
