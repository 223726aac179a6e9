import java.util.ArrayList;
import java.util.HashSet;
import java.util.List;
import java.util.Random;
import java.util.Set;

/** Rules 1 to 6 on random areas and lines, held against slabs of the plane; read() and move(). */
public final class RulesTest {
  public static void main(String[] args) {
    int rounds = args.length > 0 ? Integer.parseInt(args[0]) : 4000;
    long seed = args.length > 1 ? Long.parseLong(args[1]) : 1;
    int[] counts = new int[7];
    for (int round = 0; round < rounds; round++) {
      Random random = new Random(seed * 7919 + round);
      int reach = 2 + random.nextInt(5);
      Feeder.Shape shape = shape(random, reach);
      int want = broken(shape);
      counts[want]++;
      LandMap map = new LandMap();
      String text = "P(0 0)" + shape.text();
      Feeder.due(text, Feeder.read(map, 2, text), want == 0 ? 2 : -2);
      Feeder.due("rule of " + text, map.rule(), want);
      Feeder.due("broken of " + text, map.broken(), want == 0 ? -1 : 1);
      Feeder.due("place of " + text, map.place(), -1);
      Feeder.due("size of " + text, map.size(2, 0), want == 0 ? 2 : 0);
      if (want == 0) moveOne(random, reach, map, shape);
    }
    for (int rule = 0; rule <= 6; rule++) {
      System.out.println("areas with rule " + rule + " broken: " + counts[rule]);
      if (rounds >= 4000) Feeder.due("areas with rule " + rule + " broken", counts[rule] > 10, true);
    }
    Feeder.finish("RulesTest");
  }

  private static Feeder.Shape shape(Random random, int reach) {
    if (random.nextInt(10) == 0) {
      Feeder.Shape line = Shapes.line(random, reach);
      if (random.nextBoolean()) line.rows.get(0)[1] = line.rows.get(0)[0];
      return line;
    }
    Feeder.Shape shape = random.nextInt(3) == 0 ? touching(random) : Shapes.anyArea(random, reach);
    if (random.nextInt(30) == 0) {
      int[][] row = shape.rows.get(random.nextInt(shape.rows.size()));
      row[row.length - 1] = Shapes.place(random, reach);
    }
    return shape;
  }

  /** A wide ring with small holes on even places, which touch one another often. */
  private static Feeder.Shape touching(Random random) {
    Feeder.Shape shape = new Feeder.Shape(2, 0);
    shape.rows.add(new int[][] {{0, 0}, {8, 0}, {8, 8}, {4, 8}, {0, 8}, {0, 0}});
    int holes = 1 + random.nextInt(6);
    for (int i = 0; i < holes; i++) {
      int x = 2 * random.nextInt(4);
      int y = 2 * random.nextInt(4);
      int[][] diamond = {{x, y + 1}, {x + 1, y}, {x + 2, y + 1}, {x + 1, y + 2}, {x, y + 1}};
      int[][] half = {{x, y + 1}, {x + 1, y + 2}, {x + 1, y}, {x, y + 1}};
      shape.rows.add(random.nextInt(4) == 0 ? half : diamond);
    }
    return shape;
  }

  private static void moveOne(Random random, int reach, LandMap map, Feeder.Shape shape) {
    int r = random.nextInt(shape.rows.size());
    int[][] row = shape.rows.get(r);
    int k = random.nextInt(row.length);
    int[] place = Shapes.place(random, reach);
    Feeder.Shape moved = new Feeder.Shape(shape.kind, shape.value);
    for (int[][] old : shape.rows) {
      int[][] copy = new int[old.length][];
      for (int i = 0; i < old.length; i++) copy[i] = old[i].clone();
      moved.rows.add(copy);
    }
    moved.rows.get(r)[k] = place;
    if (shape.kind == 2 && k == 0) moved.rows.get(r)[row.length - 1] = place;
    if (shape.kind == 2 && k == row.length - 1) moved.rows.get(r)[0] = place;
    int want = broken(moved);
    String name = "move in " + shape.text() + " to " + moved.text();
    Feeder.due(name, Feeder.move(map, 2, 1, r, k, place[0], place[1]), want == 0 ? 0 : -2);
    Feeder.due("rule of " + name, map.rule(), want);
    Feeder.due("broken of " + name, map.broken(), want == 0 ? -1 : 0);
    String text = Feeder.shapeOf(map, 2, 1).text();
    Feeder.due("result of " + name, text.equals((want == 0 ? moved : shape).text()), true);
  }

  static int broken(Feeder.Shape shape) {
    if (shape.kind == 2) {
      for (int[][] row : shape.rows) {
        if (row.length < 4 || !same(row[0], row[row.length - 1])) return 1;
      }
    }
    for (int[][] row : shape.rows) {
      for (int i = 0; i + 1 < row.length; i++) {
        if (same(row[i], row[i + 1])) return 2;
      }
    }
    if (shape.kind != 2) return 0;
    for (int[][] row : shape.rows) {
      if (!isSimple(row)) return 3;
    }
    for (int[][] one : shape.rows) {
      for (int[][] two : shape.rows) {
        if (one != two && crosses(one, two)) return 4;
      }
    }
    return brokenInside(shape);
  }

  private static boolean same(int[] p, int[] q) {
    return p[0] == q[0] && p[1] == q[1];
  }

  private static int[] edge(int[][] row, int i) {
    return new int[] {row[i][0], row[i][1], row[i + 1][0], row[i + 1][1]};
  }

  /** The common places of two edges: null none, else the first and the last (the same: just one). */
  private static Q[][] common(int[] e, int[] f) {
    Q dx = Q.of(e[2] - e[0]);
    Q dy = Q.of(e[3] - e[1]);
    Q low = Q.of(0);
    Q high = Q.of(1);
    // Along e, what lies between both ends of f, seen across f and along f.
    Q ex = Q.of(f[2] - f[0]);
    Q ey = Q.of(f[3] - f[1]);
    Q gx = Q.of(e[0] - f[0]);
    Q gy = Q.of(e[1] - f[1]);
    Q turn = dx.times(ey).minus(dy.times(ex));
    Q start = gx.times(ey).minus(gy.times(ex));
    if (turn.sign() == 0 && start.sign() != 0) return null;
    if (turn.sign() != 0) {
      low = Slabs.max(low, Q.of(0).minus(start).over(turn));
      high = Slabs.min(high, Q.of(0).minus(start).over(turn));
    }
    Q go = dx.times(ex).plus(dy.times(ey));
    Q at = gx.times(ex).plus(gy.times(ey));
    Q whole = ex.times(ex).plus(ey.times(ey));
    if (go.sign() == 0) {
      if (at.sign() < 0 || at.compareTo(whole) > 0) return null;
    } else {
      Q first = Q.of(0).minus(at).over(go);
      Q last = whole.minus(at).over(go);
      low = Slabs.max(low, Slabs.min(first, last));
      high = Slabs.min(high, Slabs.max(first, last));
    }
    if (low.compareTo(high) > 0) return null;
    return new Q[][] {spot(e, low), spot(e, high)};
  }

  private static Q[] spot(int[] e, Q t) {
    return new Q[] {Q.of(e[0]).plus(Q.of(e[2] - e[0]).times(t)), Q.of(e[1]).plus(Q.of(e[3] - e[1]).times(t))};
  }

  private static boolean is(Q[] place, int x, int y) {
    return place[0].equals(Q.of(x)) && place[1].equals(Q.of(y));
  }

  private static boolean isSimple(int[][] row) {
    int many = row.length - 1;
    for (int i = 0; i < many; i++) {
      for (int j = i + 1; j < many; j++) {
        Q[][] common = common(edge(row, i), edge(row, j));
        if (common == null) continue;
        int[] corner = j == i + 1 ? row[j] : i == 0 && j == many - 1 ? row[0] : null;
        if (corner == null || !is(common[0], corner[0], corner[1]) || !is(common[1], corner[0], corner[1])) return false;
      }
    }
    return true;
  }

  private static boolean crosses(int[][] one, int[][] two) {
    for (int i = 0; i + 1 < one.length; i++) {
      for (int j = 0; j + 1 < two.length; j++) {
        int[] e = edge(one, i);
        int[] f = edge(two, j);
        Q[][] common = common(e, f);
        if (common == null) continue;
        Q[] p = common[0];
        Q[] q = common[1];
        if (!p[0].equals(q[0]) || !p[1].equals(q[1])) return true;
        if (!is(p, e[0], e[1]) && !is(p, e[2], e[3]) && !is(p, f[0], f[1]) && !is(p, f[2], f[3])) return true;
      }
    }
    return false;
  }

  /** Rules 5 and 6: which gaps between the rings lie inside which of them. */
  private static int brokenInside(Feeder.Shape shape) {
    List<int[]> segments = new ArrayList<>();
    List<Integer> owners = new ArrayList<>();
    for (int r = 0; r < shape.rows.size(); r++) {
      int[][] row = shape.rows.get(r);
      for (int i = 0; i + 1 < row.length; i++) split(edge(row, i), r, shape, segments, owners);
    }
    Slabs slabs = new Slabs(segments.toArray(new int[0][]));
    Set<Integer> wholes = new HashSet<>();
    for (int k = 0; k < slabs.across.size(); k++) {
      for (int i = 0; i < slabs.cells(k); i++) {
        int[] below = new int[shape.rows.size()];
        for (int j = 0; j < i; j++) below[owners.get(slabs.across.get(k).get(j))]++;
        int holes = 0;
        for (int r = 1; r < below.length; r++) holes += below[r] % 2;
        boolean first = below[0] % 2 == 1;
        if (holes > 1 || holes == 1 && !first) return 5;
        if (first && holes == 0) wholes.add(slabs.root(slabs.cell(k, i)));
      }
    }
    return wholes.size() == 1 ? 0 : 6;
  }

  private static void split(int[] e, int owner, Feeder.Shape shape, List<int[]> segments, List<Integer> owners) {
    List<int[]> cuts = new ArrayList<>();
    for (int[][] row : shape.rows) {
      for (int[] p : row) {
        if (Slabs.isOn(e, p[0], p[1])) cuts.add(p);
      }
    }
    cuts.sort(Plane.ROW);
    for (int i = 0; i + 1 < cuts.size(); i++) {
      int[] p = cuts.get(i);
      int[] q = cuts.get(i + 1);
      if (same(p, q)) continue;
      segments.add(new int[] {p[0], p[1], q[0], q[1]});
      owners.add(owner);
    }
  }
}
