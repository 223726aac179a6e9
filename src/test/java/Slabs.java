import java.util.ArrayList;
import java.util.List;
import java.util.TreeSet;

/**
 * The plane cut by segments that meet at their ends alone, found in another way than the program's:
 * upright slabs between the ends, the gaps in them, and gaps joined where slabs meet.
 */
final class Slabs {
  private static final Q FAR = Q.of(100000000);
  final int[][] segments;
  final List<Integer> lines = new ArrayList<>();
  /** Of each slab the segments across it, the lowest first. */
  final List<List<Integer>> across = new ArrayList<>();
  private final List<Integer> firstCell = new ArrayList<>();
  private int[] parent = new int[1];

  Slabs(int[][] segments) {
    this.segments = segments;
    TreeSet<Integer> xs = new TreeSet<>();
    for (int[] s : segments) {
      xs.add(s[0]);
      xs.add(s[2]);
    }
    lines.addAll(xs);
    int cells = 1;
    for (int k = 0; k + 1 < lines.size(); k++) {
      Q middle = Q.of(lines.get(k) + (long) lines.get(k + 1), 2);
      List<Integer> row = new ArrayList<>();
      for (int i = 0; i < segments.length; i++) {
        if (segments[i][0] <= lines.get(k) && segments[i][2] >= lines.get(k + 1)) row.add(i);
      }
      row.sort((a, b) -> height(a, middle).compareTo(height(b, middle)));
      across.add(row);
      firstCell.add(cells);
      cells += row.size() + 1;
    }
    parent = new int[cells];
    for (int i = 0; i < cells; i++) parent[i] = i;
    for (int k = 0; k < across.size(); k++) {
      join(0, cell(k, 0));
      join(0, cell(k, across.get(k).size()));
    }
    for (int k = 0; k < lines.size(); k++) joinAcross(k);
  }

  Q height(int segment, Q x) {
    int[] s = segments[segment];
    Q slope = Q.of(s[3] - s[1], s[2] - s[0]);
    return Q.of(s[1]).plus(slope.times(x.minus(Q.of(s[0]))));
  }

  /** The gap above i segments of slab k; beyond the slabs all is outside. */
  int cell(int k, int i) {
    return k < 0 || k >= across.size() ? 0 : firstCell.get(k) + i;
  }

  int cells(int k) {
    return k < 0 || k >= across.size() ? 1 : across.get(k).size() + 1;
  }

  int root(int c) {
    while (parent[c] != c) c = parent[c];
    return c;
  }

  private void join(int a, int b) {
    int ra = root(a);
    int rb = root(b);
    if (ra != rb) parent[Math.max(ra, rb)] = Math.min(ra, rb);
  }

  private Q low(int k, int i, Q x) {
    return k < 0 || k >= across.size() || i == 0 ? Q.of(0).minus(FAR) : height(across.get(k).get(i - 1), x);
  }

  private Q high(int k, int i, Q x) {
    return k < 0 || k >= across.size() || i == across.get(k).size() ? FAR : height(across.get(k).get(i), x);
  }

  private void joinAcross(int k) {
    Q x = Q.of(lines.get(k));
    List<int[]> walls = new ArrayList<>();
    for (int[] s : segments) {
      if (s[0] == s[2] && s[0] == lines.get(k)) walls.add(new int[] {Math.min(s[1], s[3]), Math.max(s[1], s[3])});
    }
    walls.sort((a, b) -> Integer.compare(a[0], b[0]));
    for (int i = 0; i < cells(k - 1); i++) {
      for (int j = 0; j < cells(k); j++) {
        Q low = max(low(k - 1, i, x), low(k, j, x));
        Q high = min(high(k - 1, i, x), high(k, j, x));
        if (isOpen(low, high, walls)) join(cell(k - 1, i), cell(k, j));
      }
    }
  }

  private static boolean isOpen(Q low, Q high, List<int[]> walls) {
    Q at = low;
    for (int[] wall : walls) {
      if (at.compareTo(high) >= 0) return false;
      if (Q.of(wall[0]).compareTo(at) > 0) return true;
      at = max(at, Q.of(wall[1]));
    }
    return at.compareTo(high) < 0;
  }

  static Q max(Q a, Q b) {
    return a.compareTo(b) >= 0 ? a : b;
  }

  static Q min(Q a, Q b) {
    return a.compareTo(b) <= 0 ? a : b;
  }

  /** The gap left (or right) of the way along segment i from its lesser end to the other one. */
  int beside(int i, boolean left) {
    int[] s = segments[i];
    int k = lines.indexOf(s[0]);
    if (s[0] != s[2]) {
      int at = across.get(k).indexOf(i);
      return root(cell(k, left ? at + 1 : at));
    }
    Q middle = Q.of(s[1] + (long) s[3], 2);
    return gapAt(left ? k - 1 : k, Q.of(s[0]), middle);
  }

  private int gapAt(int k, Q x, Q y) {
    for (int i = 0; i < cells(k); i++) {
      if (low(k, i, x).compareTo(y) < 0 && y.compareTo(high(k, i, x)) < 0) return root(cell(k, i));
    }
    throw new IllegalStateException("no gap");
  }

  /** The gap around a place that is on no segment. */
  int around(int x, int y) {
    for (int k = 0; k < across.size(); k++) {
      if (lines.get(k) <= x && x <= lines.get(k + 1)) return gapAt(k, Q.of(x), Q.of(y));
    }
    return 0;
  }

  static boolean isOn(int[] s, int x, int y) {
    long turn = (long) (s[2] - s[0]) * (y - s[1]) - (long) (s[3] - s[1]) * (x - s[0]);
    return turn == 0 && x >= Math.min(s[0], s[2]) && x <= Math.max(s[0], s[2])
        && y >= Math.min(s[1], s[3]) && y <= Math.max(s[1], s[3]);
  }
}
