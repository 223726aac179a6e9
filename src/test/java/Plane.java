import java.util.ArrayList;
import java.util.Arrays;
import java.util.Collections;
import java.util.Comparator;
import java.util.HashMap;
import java.util.HashSet;
import java.util.List;
import java.util.Map;
import java.util.Set;
import java.util.TreeMap;
import java.util.TreeSet;

/** Laying as terms 4 to 6 tell it, by slow and exact means: what the program answers is held against it. */
final class Plane {
  static final Comparator<int[]> ROW = Arrays::compare;
  final List<List<Feeder.Shape>> sides;
  final List<int[]> nodes = new ArrayList<>();
  final List<int[]> pieces = new ArrayList<>();
  final Map<Long, int[]> going = new HashMap<>();
  /** For each side and feature how often it goes along each piece. */
  final List<List<Map<Integer, Integer>>> trips = new ArrayList<>();
  Slabs slabs;
  int faces;
  int[] leftFace;
  int[] rightFace;
  final Map<Integer, Integer> faceOfGap = new HashMap<>();

  Plane(List<Feeder.Shape> a, List<Feeder.Shape> b) {
    sides = List.of(a, b);
    List<int[]> edges = new ArrayList<>();
    TreeSet<int[]> hot = new TreeSet<>(ROW);
    for (List<Feeder.Shape> side : sides) {
      for (Feeder.Shape shape : side) {
        if (shape == null) continue;
        for (int[][] row : shape.rows) {
          for (int[] place : row) hot.add(place);
          for (int i = 0; i + 1 < row.length; i++) {
            edges.add(new int[] {row[i][0], row[i][1], row[i + 1][0], row[i + 1][1]});
          }
        }
      }
    }
    for (int[] e : edges) {
      for (int[] f : edges) {
        int[] place = crossing(e, f);
        if (place != null) hot.add(place);
      }
    }
    nodes.addAll(hot);
    bendAll(hot);
    findFaces();
  }

  private static Q dot(Q ax, Q ay, Q bx, Q by) {
    return ax.times(by).minus(ay.times(bx));
  }

  /** The rounded common place of two edges that are not in one straight line; null if there is none. */
  static int[] crossing(int[] e, int[] f) {
    Q dx = Q.of(e[2] - e[0]);
    Q dy = Q.of(e[3] - e[1]);
    Q ex = Q.of(f[2] - f[0]);
    Q ey = Q.of(f[3] - f[1]);
    Q below = dot(dx, dy, ex, ey);
    if (below.sign() == 0) return null;
    Q gx = Q.of(f[0] - e[0]);
    Q gy = Q.of(f[1] - e[1]);
    Q t = dot(gx, gy, ex, ey).over(below);
    Q u = dot(gx, gy, dx, dy).over(below);
    Q one = Q.of(1);
    if (t.sign() < 0 || t.compareTo(one) > 0 || u.sign() < 0 || u.compareTo(one) > 0) return null;
    Q x = Q.of(e[0]).plus(dx.times(t)).plus(Q.HALF);
    Q y = Q.of(e[1]).plus(dy.times(t)).plus(Q.HALF);
    return new int[] {(int) x.floor(), (int) y.floor()};
  }

  /** Whether an edge has a place in a cell, by the stretch of it that lies in both strips. */
  static boolean meets(int[] e, int i, int j) {
    Q[] range = {Q.of(0), Q.of(1)};
    boolean[] open = {false, false};
    return clip(e[0], e[2], i, range, open) && clip(e[1], e[3], j, range, open);
  }

  private static boolean clip(int start, int stop, int i, Q[] range, boolean[] open) {
    Q low = Q.of(2L * i - 1, 2);
    Q high = Q.of(2L * i + 1, 2);
    if (start == stop) return low.compareTo(Q.of(start)) <= 0 && Q.of(start).compareTo(high) < 0;
    Q d = Q.of(stop - start);
    Q atLow = low.minus(Q.of(start)).over(d);
    Q atHigh = high.minus(Q.of(start)).over(d);
    boolean up = stop > start;
    tighten(up ? atLow : atHigh, !up, 0, range, open);
    tighten(up ? atHigh : atLow, up, 1, range, open);
    int order = range[0].compareTo(range[1]);
    return order < 0 || order == 0 && !open[0] && !open[1];
  }

  private static void tighten(Q t, boolean isOpen, int end, Q[] range, boolean[] open) {
    int order = end == 0 ? t.compareTo(range[0]) : range[1].compareTo(t);
    if (order > 0) {
      range[end] = t;
      open[end] = isOpen;
    } else if (order == 0) {
      open[end] |= isOpen;
    }
  }

  private void bendAll(TreeSet<int[]> hot) {
    Map<String, Integer> numbers = new HashMap<>();
    for (int n = 0; n < nodes.size(); n++) numbers.put(Arrays.toString(nodes.get(n)), n);
    TreeMap<Long, int[]> found = new TreeMap<>();
    List<List<List<Long>>> steps = new ArrayList<>();
    for (int side = 0; side < 2; side++) {
      steps.add(new ArrayList<>());
      for (Feeder.Shape shape : sides.get(side)) {
        List<Long> own = new ArrayList<>();
        steps.get(side).add(own);
        if (shape == null) continue;
        for (int[][] row : shape.rows) {
          for (int i = 0; i + 1 < row.length; i++) {
            List<int[]> path = bend(row[i], row[i + 1]);
            for (int k = 0; k + 1 < path.size(); k++) {
              long u = numbers.get(Arrays.toString(path.get(k)));
              long v = numbers.get(Arrays.toString(path.get(k + 1)));
              long key = Math.min(u, v) * 100000 + Math.max(u, v);
              found.computeIfAbsent(key, x -> new int[2])[side]++;
              own.add(key);
            }
          }
        }
      }
    }
    List<Long> keys = new ArrayList<>(found.keySet());
    for (long key : keys) pieces.add(new int[] {(int) (key / 100000), (int) (key % 100000)});
    going.putAll(found);
    for (List<List<Long>> side : steps) {
      List<Map<Integer, Integer>> list = new ArrayList<>();
      for (List<Long> own : side) {
        Map<Integer, Integer> counts = new HashMap<>();
        for (long key : own) counts.merge(Collections.binarySearch(keys, key), 1, Integer::sum);
        list.add(counts);
      }
      trips.add(list);
    }
  }

  private List<int[]> bend(int[] start, int[] stop) {
    int[] e = {start[0], start[1], stop[0], stop[1]};
    List<int[]> path = new ArrayList<>();
    for (int[] place : nodes) {
      if (meets(e, place[0], place[1])) path.add(place);
    }
    path.sort(Comparator.comparingLong(p -> (long) (p[0] - e[0]) * (e[2] - e[0]) + (long) (p[1] - e[1]) * (e[3] - e[1])));
    return path;
  }

  int went(int p, int side) {
    int[] piece = pieces.get(p);
    return going.get(piece[0] * 100000L + piece[1])[side];
  }

  private void findFaces() {
    int[][] segments = new int[pieces.size()][];
    for (int p = 0; p < segments.length; p++) {
      int[] u = nodes.get(pieces.get(p)[0]);
      int[] v = nodes.get(pieces.get(p)[1]);
      segments[p] = new int[] {u[0], u[1], v[0], v[1]};
    }
    slabs = new Slabs(segments);
    Map<Integer, Long> keys = new HashMap<>();
    leftFace = new int[segments.length];
    rightFace = new int[segments.length];
    for (int p = 0; p < segments.length; p++) {
      leftFace[p] = slabs.beside(p, true);
      rightFace[p] = slabs.beside(p, false);
      keys.merge(leftFace[p], pieces.get(p)[0] * 100000L + pieces.get(p)[1], Math::min);
      keys.merge(rightFace[p], pieces.get(p)[1] * 100000L + pieces.get(p)[0], Math::min);
    }
    keys.remove(slabs.root(0));
    List<Integer> gaps = new ArrayList<>(keys.keySet());
    gaps.sort(Comparator.comparingLong(keys::get));
    faceOfGap.put(slabs.root(0), 0);
    for (int gap : gaps) faceOfGap.put(gap, faceOfGap.size());
    faces = faceOfGap.size();
    for (int p = 0; p < segments.length; p++) {
      leftFace[p] = faceOfGap.get(leftFace[p]);
      rightFace[p] = faceOfGap.get(rightFace[p]);
    }
  }

  /** The face at a place, or -1 less the least piece there. */
  int locate(int x, int y) {
    for (int p = 0; p < pieces.size(); p++) {
      if (Slabs.isOn(slabs.segments[p], x, y)) return -1 - p;
    }
    return faceOfGap.get(slabs.around(x, y));
  }

  int nodeAt(int x, int y) {
    for (int n = 0; n < nodes.size(); n++) {
      if (nodes.get(n)[0] == x && nodes.get(n)[1] == y) return n;
    }
    return -1;
  }

  int rings(int f) {
    int[] group = new int[nodes.size()];
    for (int n = 0; n < group.length; n++) group[n] = n;
    for (boolean more = true; more;) {
      more = false;
      for (int[] piece : pieces) {
        int least = Math.min(group[piece[0]], group[piece[1]]);
        more |= group[piece[0]] != least || group[piece[1]] != least;
        group[piece[0]] = least;
        group[piece[1]] = least;
      }
    }
    Set<Integer> found = new HashSet<>();
    for (int p = 0; p < pieces.size(); p++) {
      if (leftFace[p] == f || rightFace[p] == f) found.add(group[pieces.get(p)[0]]);
    }
    return found.size();
  }

  int ways(int f) {
    int sum = 0;
    for (int p = 0; p < pieces.size(); p++) sum += (leftFace[p] == f ? 1 : 0) + (rightFace[p] == f ? 1 : 0);
    return sum;
  }

  long area2(int f) {
    long sum = 0;
    for (int p = 0; p < pieces.size(); p++) {
      int[] u = nodes.get(pieces.get(p)[0]);
      int[] v = nodes.get(pieces.get(p)[1]);
      long turn = (long) u[0] * v[1] - (long) v[0] * u[1];
      sum += (leftFace[p] == f ? turn : 0) - (rightFace[p] == f ? turn : 0);
    }
    return f == 0 ? 0 : sum;
  }

  /** Whether a feature covers a face: odd pieces below a gap of it are counted. */
  boolean covers(int side, int feature, int f) {
    Feeder.Shape shape = sides.get(side).get(feature);
    if (shape == null || shape.kind != 2) return false;
    Map<Integer, Integer> counts = trips.get(side).get(feature);
    for (int k = 0; k < slabs.across.size(); k++) {
      for (int i = 0; i < slabs.cells(k); i++) {
        if (faceOfGap.getOrDefault(slabs.root(slabs.cell(k, i)), -1) != f) continue;
        int sum = 0;
        for (int below = 0; below < i; below++) sum += counts.getOrDefault(slabs.across.get(k).get(below), 0);
        return sum % 2 == 1;
      }
    }
    return false;
  }

  int coverCount(int side, int f) {
    int sum = 0;
    for (int i = 0; i < sides.get(side).size(); i++) sum += covers(side, i, f) ? 1 : 0;
    return sum;
  }

  int coverLeast(int side, int f) {
    for (int i = 0; i < sides.get(side).size(); i++) {
      if (covers(side, i, f)) return i;
    }
    return -1;
  }

  /** Entry by entry the relation of the lone features of both sides. */
  int[] relation() {
    int[] entries = new int[9];
    Arrays.fill(entries, -1);
    for (int f = 0; f < faces; f++) enter(entries, facePart(0, f), facePart(1, f), 2);
    for (int p = 0; p < pieces.size(); p++) enter(entries, piecePart(0, p), piecePart(1, p), 1);
    for (int n = 0; n < nodes.size(); n++) enter(entries, nodePart(0, n), nodePart(1, n), 0);
    return entries;
  }

  private static void enter(int[] entries, int i, int j, int dimension) {
    entries[3 * i + j] = Math.max(entries[3 * i + j], dimension);
  }

  private int facePart(int side, int f) {
    return covers(side, 0, f) ? 0 : 2;
  }

  private int piecePart(int side, int p) {
    if (sides.get(side).get(0).kind == 1) return trips.get(side).get(0).containsKey(p) ? 0 : 2;
    if (sides.get(side).get(0).kind == 0) return 2;
    int sum = (covers(side, 0, leftFace[p]) ? 1 : 0) + (covers(side, 0, rightFace[p]) ? 1 : 0);
    return sum == 2 ? 0 : sum == 1 ? 1 : 2;
  }

  private int nodePart(int side, int n) {
    Feeder.Shape shape = sides.get(side).get(0);
    int[] place = nodes.get(n);
    if (shape.kind == 0) return Arrays.equals(shape.rows.get(0)[0], place) ? 0 : 2;
    List<Integer> ending = new ArrayList<>();
    for (int p = 0; p < pieces.size(); p++) {
      if (pieces.get(p)[0] == n || pieces.get(p)[1] == n) ending.add(p);
    }
    if (shape.kind == 1) {
      int ends = 0;
      for (int[][] row : shape.rows) {
        if (Arrays.equals(row[0], row[row.length - 1])) continue;
        if (Arrays.equals(row[0], place) || Arrays.equals(row[row.length - 1], place)) ends++;
      }
      if (ends % 2 == 1) return 1;
      for (int p : ending) {
        if (piecePart(side, p) == 0) return 0;
      }
      return 2;
    }
    for (int p : ending) {
      if (piecePart(side, p) == 1) return 1;
    }
    if (ending.isEmpty()) return covers(side, 0, faceOfGap.get(slabs.around(place[0], place[1]))) ? 0 : 2;
    return covers(side, 0, leftFace[ending.get(0)]) ? 0 : 2;
  }

  /** The overlay's features: first the value, then the rows. */
  List<Feeder.Shape> overlay(int way, boolean split) {
    int[] whole = new int[faces];
    int[] leastA = new int[faces];
    int[] leastB = new int[faces];
    for (int f = 0; f < faces; f++) {
      leastA[f] = coverLeast(0, f);
      leastB[f] = coverLeast(1, f);
      boolean a = leastA[f] >= 0;
      boolean b = leastB[f] >= 0;
      boolean chosen = way == 0 ? a | b : way == 1 ? a & b : way == 2 ? a & !b : a ^ b;
      whole[f] = chosen ? f : -1;
    }
    for (boolean more = true; more;) {
      more = false;
      for (int p = 0; p < pieces.size(); p++) {
        int l = leftFace[p];
        int r = rightFace[p];
        if (whole[l] < 0 || whole[r] < 0 || whole[l] == whole[r]) continue;
        if (split && (leastA[l] != leastA[r] || leastB[l] != leastB[r])) continue;
        whole[l] = Math.min(whole[l], whole[r]);
        whole[r] = whole[l];
        more = true;
      }
    }
    List<Feeder.Shape> out = new ArrayList<>();
    for (int f = 0; f < faces; f++) {
      if (whole[f] != f) continue;
      int value = 0;
      if (split) value = leastA[f] >= 0 ? sides.get(0).get(leastA[f]).value : sides.get(1).get(leastB[f]).value;
      out.add(outline(whole, f, value));
    }
    out.sort((s, t) -> compareRows(s.rows.get(0), t.rows.get(0)));
    return out;
  }

  private static int compareRows(int[][] s, int[][] t) {
    return Arrays.compare(s, t, ROW);
  }

  private Feeder.Shape outline(int[] whole, int w, int value) {
    Map<Long, Integer> next = new HashMap<>();
    List<Long> starts = new ArrayList<>();
    for (int n = 0; n < nodes.size(); n++) linkCorners(n, whole, w, next, starts);
    List<int[][]> rings = new ArrayList<>();
    Set<Long> used = new HashSet<>();
    for (long start : starts) {
      if (used.contains(start)) continue;
      List<Integer> round = new ArrayList<>();
      long at = start;
      while (used.add(at)) {
        round.add((int) (at / 100000));
        int to = (int) (at % 100000);
        at = to * 100000L + next.get(at);
      }
      cut(round, rings);
    }
    Feeder.Shape shape = new Feeder.Shape(2, value);
    rings.sort((s, t) -> area2(s) > 0 ? -1 : area2(t) > 0 ? 1 : compareRows(s, t));
    shape.rows.addAll(rings);
    return shape;
  }

  /** Runs of corners of one whole round a node: each comes in by one border way and leaves by another. */
  private void linkCorners(int n, int[] whole, int w, Map<Long, Integer> next, List<Long> starts) {
    List<int[]> around = new ArrayList<>();
    for (int p = 0; p < pieces.size(); p++) {
      if (pieces.get(p)[0] == n) around.add(new int[] {pieces.get(p)[1], leftFace[p], rightFace[p]});
      if (pieces.get(p)[1] == n) around.add(new int[] {pieces.get(p)[0], rightFace[p], leftFace[p]});
    }
    int[] here = nodes.get(n);
    around.sort(Comparator.comparingDouble(a -> Math.atan2(nodes.get(a[0])[1] - here[1], nodes.get(a[0])[0] - here[0])));
    for (int i = 0; i < around.size(); i++) {
      int[] out = around.get(i);
      if (whole[out[1]] != w || whole[out[2]] == w) continue;
      starts.add(n * 100000L + out[0]);
      for (int k = 1; k <= around.size(); k++) {
        int[] in = around.get((i + k) % around.size());
        if (whole[in[1]] == w) continue;
        next.put(in[0] * 100000L + n, out[0]);
        break;
      }
    }
  }

  private void cut(List<Integer> round, List<int[][]> rings) {
    List<Integer> left = new ArrayList<>(round);
    while (!left.isEmpty()) {
      int from = 0;
      int to = left.size();
      for (int i = 0; i < left.size(); i++) {
        for (int j = i + 1; j < left.size(); j++) {
          if (left.get(i).equals(left.get(j)) && j - i < to - from) {
            from = i;
            to = j;
          }
        }
      }
      rings.add(tidy(new ArrayList<>(left.subList(from, to))));
      left.subList(from, to).clear();
    }
  }

  private int[][] tidy(List<Integer> ring) {
    List<int[]> kept = new ArrayList<>();
    Collections.rotate(ring, -ring.indexOf(Collections.min(ring)));
    for (int i = 0; i < ring.size(); i++) {
      int[] a = nodes.get(ring.get((i + ring.size() - 1) % ring.size()));
      int[] b = nodes.get(ring.get(i));
      int[] c = nodes.get(ring.get((i + 1) % ring.size()));
      if ((long) (b[0] - a[0]) * (c[1] - b[1]) != (long) (b[1] - a[1]) * (c[0] - b[0])) kept.add(b);
    }
    kept.add(kept.get(0));
    return kept.toArray(new int[0][]);
  }

  static long area2(int[][] row) {
    long sum = 0;
    for (int i = 0; i + 1 < row.length; i++) {
      sum += (long) row[i][0] * row[i + 1][1] - (long) row[i + 1][0] * row[i][1];
    }
    return sum;
  }
}
