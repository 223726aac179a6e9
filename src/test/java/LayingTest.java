import java.util.Arrays;
import java.util.List;
import java.util.Random;

/** Promises 18 to 28, 33 and 38 on random layers, held against the slow Plane. */
public final class LayingTest {
  public static void main(String[] args) {
    int rounds = args.length > 0 ? Integer.parseInt(args[0]) : 250;
    long seed = args.length > 1 ? Long.parseLong(args[1]) : 1;
    int[] reaches = {2, 3, 5, 8, 20, 300, 240000};
    for (int round = 0; round < rounds; round++) {
      Random random = new Random(seed * 1000003 + round);
      int reach = reaches[random.nextInt(reaches.length)];
      layTwo(random, reach);
      relateTwo(random, reach);
    }
    Feeder.finish("LayingTest");
  }

  private static void layTwo(Random random, int reach) {
    List<Feeder.Shape> a = Shapes.some(random, reach, 4);
    List<Feeder.Shape> b = Shapes.some(random, reach, 3);
    LandMap map = new LandMap();
    if (!a.isEmpty()) Feeder.due(Shapes.text(a), Feeder.read(map, 3, Shapes.text(a)), a.size());
    if (!b.isEmpty()) Feeder.due(Shapes.text(b), Feeder.read(map, 4, Shapes.text(b)), b.size());
    if (a.size() > 1 && random.nextInt(5) == 0) {
      a.set(0, null);
      map.drop(3, 0);
    }
    Plane plane = new Plane(a, b);
    String name = a.stream().map(s -> s == null ? "-" : s.text()).toList() + " | " + Shapes.text(b) + " ";
    Feeder.due(name + "lay", map.lay(3, 4), plane.pieces.size());
    checkNodes(name, map, plane);
    checkFaces(name, map, plane);
    checkPlaces(name, map, plane, random, reach);
    for (int way = 0; way < 4; way++) {
      checkOverlay(name + "way " + way, map, plane.overlay(way, false), way, false);
      checkOverlay(name + "split way " + way, map, plane.overlay(way, true), way, true);
    }
  }

  private static void checkNodes(String name, LandMap map, Plane plane) {
    Feeder.due(name + "nodes", map.laid(0), plane.nodes.size());
    Feeder.due(name + "hot", map.laid(3), plane.nodes.size());
    Feeder.due(name + "pieces", map.laid(1), plane.pieces.size());
    Feeder.due(name + "strays", map.strays(), 0);
    for (int n = 0; n < plane.nodes.size(); n++) {
      int node = n;
      Feeder.due(name + "x of node " + n, map.node(n, 0), plane.nodes.get(n)[0]);
      Feeder.due(name + "y of node " + n, map.node(n, 1), plane.nodes.get(n)[1]);
      long ends = plane.pieces.stream().filter(p -> p[0] == node || p[1] == node).count();
      Feeder.due(name + "pieces at node " + n, map.node(n, 2), ends);
    }
    int[] along = new int[2];
    for (int p = 0; p < plane.pieces.size(); p++) {
      int[] want = {plane.pieces.get(p)[0], plane.pieces.get(p)[1], plane.leftFace[p], plane.rightFace[p],
          plane.went(p, 0), plane.went(p, 1)};
      for (int what = 0; what < 6; what++) Feeder.due(name + "piece " + p + " " + what, map.piece(p, what), want[what]);
      along[0] += want[4] > 0 ? 1 : 0;
      along[1] += want[5] > 0 ? 1 : 0;
    }
    Feeder.due(name + "along a", map.laid(4), along[0]);
    Feeder.due(name + "along b", map.laid(5), along[1]);
  }

  private static void checkFaces(String name, LandMap map, Plane plane) {
    Feeder.due(name + "faces", map.laid(2), plane.faces);
    for (int f = 0; f < plane.faces; f++) {
      int[] want = {plane.rings(f), plane.ways(f), plane.coverCount(0, f), plane.coverCount(1, f),
          plane.coverLeast(0, f), plane.coverLeast(1, f)};
      for (int what = 0; what < 6; what++) Feeder.due(name + "face " + f + " " + what, map.face(f, what), want[what]);
      Feeder.due(name + "faceArea2 " + f, map.faceArea2(f), plane.area2(f));
    }
  }

  private static void checkPlaces(String name, LandMap map, Plane plane, Random random, int reach) {
    int side = Math.min(10000, Math.max(1, reach / 6));
    int x0 = -reach - 1;
    int y0 = -reach - 2;
    map.corner(x0, y0);
    int r = map.raster(side, 14, 15);
    int filled = 0;
    for (int i = 0; i < 14; i++) {
      for (int j = 0; j < 15; j++) {
        int x = x0 + side * i;
        int y = y0 + side * j;
        int found = plane.locate(x, y);
        Feeder.due(name + "locate " + x + " " + y, map.locate(x, y), found);
        int least = found < 0 || plane.nodeAt(x, y) >= 0 ? -1 : plane.coverLeast(0, found);
        long want = least < 0 ? 3000000000L : plane.sides.get(0).get(least).value;
        filled += least < 0 ? 0 : 1;
        Feeder.due(name + "cell " + i + " " + j, map.cell(r, i, j), want);
      }
    }
    Feeder.due(name + "filled", map.rasterSize(r, 2), filled);
  }

  private static void checkOverlay(String name, LandMap map, List<Feeder.Shape> want, int way, boolean split) {
    Feeder.due(name, map.overlay(6, way, split), want.size());
    Feeder.due(name + " size", map.size(6, 0), want.size());
    for (int f = 0; f < want.size() && f < map.size(6, 0); f++) {
      Feeder.Shape got = Feeder.shapeOf(map, 6, f);
      Feeder.due(name + " kind", map.feature(6, f, 0), 2);
      Feeder.due(name + " got " + got.text() + " for " + want.get(f).text(), got.text().equals(want.get(f).text()), true);
      // What comes out of an overlay keeps the rules of a text.
      LandMap again = new LandMap();
      Feeder.due(name + " read again " + got.text(), Feeder.read(again, 0, got.text()), 1);
      long area = Math.abs(Plane.area2(got.rows.get(0)));
      for (int r = 1; r < got.rows.size(); r++) area -= Math.abs(Plane.area2(got.rows.get(r)));
      Feeder.due(name + " area2", map.area2(6, f), area);
    }
  }

  private static void relateTwo(Random random, int reach) {
    Feeder.Shape one = Shapes.any(random, reach);
    Feeder.Shape two = random.nextInt(8) == 0 ? one : Shapes.any(random, reach);
    LandMap map = new LandMap();
    Feeder.read(map, 0, one.text());
    Feeder.read(map, 7, two.text());
    map.lay(0, 7);
    int pieces = map.laid(1);
    Feeder.due("other", map.other(7, 0), true);
    int[] want = new Plane(List.of(one), List.of(two)).relation();
    String name = one.text() + " | " + two.text() + " ";
    int[] got = new int[9];
    for (int i = 0; i < 9; i++) got[i] = map.relate(0, 0, i / 3, i % 3);
    Feeder.due(name + Arrays.toString(got) + " for " + Arrays.toString(want), Arrays.equals(got, want), true);
    for (int k = 0; k < 7; k++) {
      Feeder.due(name + "relation " + k, map.relation(0, 0, k), bears(k, want, one.kind, two.kind) ? 1 : 0);
    }
    Feeder.due(name + "laid stays", map.laid(1), pieces);
  }

  private static boolean bears(int name, int[] m, int d, int e) {
    switch (name) {
      case 0: return m[0] >= 0 && m[2] < 0 && m[5] < 0 && m[6] < 0 && m[7] < 0;
      case 1: return m[0] < 0 && m[1] < 0 && m[3] < 0 && m[4] < 0;
      case 2: return m[0] < 0 && (m[1] >= 0 || m[3] >= 0 || m[4] >= 0);
      case 3: return m[0] >= 0 && m[2] < 0 && m[5] < 0;
      case 4: return m[0] >= 0 && m[6] < 0 && m[7] < 0;
      case 5: return d == e && m[0] == d && m[2] >= 0 && m[6] >= 0;
      default:
        if (d == e) return d == 1 && m[0] == 0;
        return m[0] >= 0 && (d < e ? m[2] : m[6]) >= 0;
    }
  }
}
