import java.util.ArrayList;
import java.util.Arrays;
import java.util.Collections;
import java.util.HashSet;
import java.util.List;
import java.util.PriorityQueue;
import java.util.Random;
import java.util.Set;

/** Promises 29 to 31: random roads and bars, held against whole ways in the order of their goodness. */
public final class RouteTest {
  public static void main(String[] args) {
    int rounds = args.length > 0 ? Integer.parseInt(args[0]) : 300;
    long seed = args.length > 1 ? Long.parseLong(args[1]) : 1;
    int found = 0;
    for (int round = 0; round < rounds; round++) found += travel(new Random(seed * 32452843 + round));
    Feeder.due("ways found", found > rounds, true);
    for (int round = 0; round < rounds / 15; round++) travelWide(new Random(seed * 49979693 + round));
    Feeder.finish("RouteTest");
  }

  private static int travel(Random random) {
    int reach = random.nextInt(3) == 0 ? 2 : random.nextInt(2) == 0 ? 4 : 400;
    List<Feeder.Shape> roads = new ArrayList<>();
    int many = 1 + random.nextInt(5);
    for (int i = 0; i < many; i++) {
      Feeder.Shape shape = random.nextInt(6) == 0 ? Shapes.any(random, reach) : Shapes.line(random, reach);
      shape.value = random.nextInt(12) == 0 ? 2000000 : random.nextInt(5) == 0 ? 1 : random.nextInt(5) - 1;
      roads.add(shape);
    }
    List<Feeder.Shape> rest = Shapes.some(random, reach, 1);
    LandMap map = new LandMap();
    Feeder.read(map, 0, Shapes.text(roads));
    if (!rest.isEmpty()) Feeder.read(map, 1, Shapes.text(rest));
    map.lay(0, 1);
    Plane plane = new Plane(roads, rest);
    Set<String> bars = new HashSet<>();
    int found = 0;
    for (int n = 0; n < 12; n++) {
      if (n % 2 == 1 && plane.pieces.size() > 0) barOne(random, map, plane, bars);
      found += check(random, map, plane, weights(plane), bars);
    }
    return found;
  }

  /** A grid of 8 by 8 nodes, each road with a value of its own, and many bars. */
  private static void travelWide(Random random) {
    StringBuilder text = new StringBuilder();
    List<int[]> nodes = new ArrayList<>();
    List<int[]> pieces = new ArrayList<>();
    int most = 1 + random.nextInt(12);
    for (int n = 0; n < 64; n++) {
      nodes.add(new int[] {10 * (n / 8), 10 * (n % 8)});
      if (n % 8 < 7) pieces.add(new int[] {n, n + 1});
      if (n / 8 < 7) pieces.add(new int[] {n, n + 8});
    }
    int[] weights = new int[pieces.size()];
    for (int p = 0; p < weights.length; p++) {
      weights[p] = random.nextInt(most + 1);
      int[] u = nodes.get(pieces.get(p)[0]);
      int[] v = nodes.get(pieces.get(p)[1]);
      text.append(weights[p]).append(":L(").append(u[0]).append(' ').append(u[1]).append(',').append(v[0]).append(' ');
      text.append(v[1]).append(')');
    }
    LandMap map = new LandMap();
    Feeder.due("roads", Feeder.read(map, 0, text.toString()), weights.length);
    Feeder.due("pieces", map.lay(0, -1), weights.length);
    Set<String> bars = new HashSet<>();
    for (int n = 0; n < 60; n++) {
      int[] turn = {0, random.nextInt(64), 0};
      for (int k = 0; k < 3; k += 2) {
        int[] p = pieces.get(random.nextInt(weights.length));
        while (p[0] != turn[1] && p[1] != turn[1]) p = pieces.get(random.nextInt(weights.length));
        turn[k] = p[0] + p[1] - turn[1];
      }
      bars.add(turn[0] + " " + turn[1] + " " + turn[2]);
      int[] a = nodes.get(turn[0]);
      int[] b = nodes.get(turn[1]);
      int[] c = nodes.get(turn[2]);
      Feeder.due("bar", Feeder.bar(map, a[0], a[1], b[0], b[1], c[0], c[1]), bars.size());
    }
    for (int n = 0; n < 12; n++) {
      int start = random.nextInt(64);
      int goal = random.nextInt(64);
      Way best = best(nodes, pieces, weights, bars, start, goal);
      int[] a = nodes.get(start);
      int[] b = nodes.get(goal);
      Feeder.due("wide", Feeder.route(map, a[0], a[1], b[0], b[1]), best == null ? -3 : best.cost);
      for (int k = 0; best != null && k < best.nodes.size(); k++) {
        Feeder.due("wide, node " + k, map.routeNode(k), best.nodes.get(k));
      }
    }
  }

  private static void barOne(Random random, LandMap map, Plane plane, Set<String> bars) {
    int[] p = plane.pieces.get(random.nextInt(plane.pieces.size()));
    int b = p[random.nextInt(2)];
    List<Integer> near = new ArrayList<>();
    for (int[] q : plane.pieces) {
      if (q[0] == b) near.add(q[1]);
      if (q[1] == b) near.add(q[0]);
    }
    int a = near.get(random.nextInt(near.size()));
    int c = near.get(random.nextInt(near.size()));
    bars.add(a + " " + b + " " + c);
    int[] u = plane.nodes.get(a);
    int[] v = plane.nodes.get(b);
    int[] w = plane.nodes.get(c);
    Feeder.due("bar", Feeder.bar(map, u[0], u[1], v[0], v[1], w[0], w[1]), bars.size());
  }

  private static int[] weights(Plane plane) {
    int[] weights = new int[plane.pieces.size()];
    Arrays.fill(weights, Integer.MAX_VALUE);
    for (int f = 0; f < plane.sides.get(0).size(); f++) {
      if (plane.sides.get(0).get(f).kind != 1) continue;
      for (int p : plane.trips.get(0).get(f).keySet()) {
        weights[p] = Math.min(weights[p], Math.min(1000000, plane.sides.get(0).get(f).value));
      }
    }
    return weights;
  }

  private static final class Way implements Comparable<Way> {
    long cost;
    List<Integer> nodes = new ArrayList<>();

    @Override
    public int compareTo(Way o) {
      if (cost != o.cost) return Long.compare(cost, o.cost);
      if (nodes.size() != o.nodes.size()) return Integer.compare(nodes.size(), o.nodes.size());
      for (int i = 0; i < nodes.size(); i++) {
        int order = Integer.compare(nodes.get(i), o.nodes.get(i));
        if (order != 0) return order;
      }
      return 0;
    }
  }

  private static int check(Random random, LandMap map, Plane plane, int[] weights, Set<String> bars) {
    int[] from = plane.nodes.get(random.nextInt(plane.nodes.size()));
    int[] to = plane.nodes.get(random.nextInt(plane.nodes.size()));
    if (random.nextInt(10) == 0) to = new int[] {to[0] + 1, to[1]};
    int start = plane.nodeAt(from[0], from[1]);
    int goal = plane.nodeAt(to[0], to[1]);
    String name = plane.sides.get(0).stream().map(Feeder.Shape::text).toList() + " " + bars + " " + start + " to " + goal;
    long got = Feeder.route(map, from[0], from[1], to[0], to[1]);
    if (!isOnRoad(plane, weights, start) || !isOnRoad(plane, weights, goal)) {
      Feeder.due(name, got, -1);
      Feeder.due(name, map.routeNode(0), -1);
      return 0;
    }
    Way best = best(plane.nodes, plane.pieces, weights, bars, start, goal);
    Feeder.due(name, got, best == null ? -3 : best.cost);
    List<Integer> nodes = best == null ? Collections.emptyList() : best.nodes;
    for (int k = 0; k < nodes.size(); k++) Feeder.due(name + " node " + k, map.routeNode(k), nodes.get(k));
    Feeder.due(name + " end", map.routeNode(nodes.size()), -1);
    return best == null ? 0 : 1;
  }

  private static boolean isOnRoad(Plane plane, int[] weights, int n) {
    for (int p = 0; p < weights.length; p++) {
      if (weights[p] != Integer.MAX_VALUE && (plane.pieces.get(p)[0] == n || plane.pieces.get(p)[1] == n)) return n >= 0;
    }
    return false;
  }

  private static Way best(List<int[]> nodes, List<int[]> pieces, int[] weights, Set<String> bars, int start, int goal) {
    PriorityQueue<Way> queue = new PriorityQueue<>();
    Set<String> done = new HashSet<>();
    Way first = new Way();
    first.nodes.add(start);
    queue.add(first);
    while (!queue.isEmpty()) {
      Way way = queue.poll();
      int size = way.nodes.size();
      int at = way.nodes.get(size - 1);
      if (at == goal) return way;
      int before = size > 1 ? way.nodes.get(size - 2) : -1;
      if (!done.add(before + " " + at)) continue;
      for (int p = 0; p < weights.length; p++) {
        int[] piece = pieces.get(p);
        if (weights[p] < 1 || weights[p] == Integer.MAX_VALUE || piece[0] != at && piece[1] != at) continue;
        int next = piece[0] + piece[1] - at;
        if (bars.contains(before + " " + at + " " + next)) continue;
        Way longer = new Way();
        int[] u = nodes.get(at);
        int[] v = nodes.get(next);
        long square = (long) (u[0] - v[0]) * (u[0] - v[0]) + (long) (u[1] - v[1]) * (u[1] - v[1]);
        longer.cost = way.cost + (long) Math.floor(Math.sqrt(square)) * weights[p];
        longer.nodes.addAll(way.nodes);
        longer.nodes.add(next);
        queue.add(longer);
      }
    }
    return null;
  }
}
