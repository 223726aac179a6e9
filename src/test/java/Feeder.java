import java.util.ArrayList;
import java.util.List;
import java.util.Random;

/** What the tests share: feeding texts, counting wrong answers, small random shapes. */
final class Feeder {
  private static int wrong = 0;
  private static int asked = 0;

  private Feeder() {}

  static void due(String call, long got, long want) {
    asked++;
    if (got == want) return;
    wrong++;
    String name = call.length() > 300 ? call.substring(0, 300) + ".." : call;
    if (wrong <= 50) System.out.println(name + " answered " + got + ", due is " + want);
  }

  static void due(String call, boolean got, boolean want) {
    due(call, got ? 1 : 0, want ? 1 : 0);
  }

  static void finish(String name) {
    System.out.println(name + ": " + asked + " answers, " + wrong + " wrong");
    if (wrong != 0) System.exit(1);
  }

  /** Feeds a text whose characters are bytes, and cuts the tray behind it. */
  static void feed(LandMap map, String text) {
    int had = 0;
    for (int i = 0; i < text.length(); i += 20) {
      int[] words = new int[5];
      for (int k = 0; k < 20; k++) {
        int c = i + k < text.length() ? text.charAt(i + k) : 0;
        words[k / 4] |= c << (24 - 8 * (k % 4));
      }
      had = map.feed(words[0], words[1], words[2], words[3], words[4]);
      if (had < 0) return;
    }
    map.end(text.length());
  }

  static int read(LandMap map, int layer, String text) {
    feed(map, text);
    return map.read(layer);
  }

  static int algebra(LandMap map, String text) {
    feed(map, text);
    return map.algebra();
  }

  static int move(LandMap map, int layer, int f, int row, int k, int x, int y) {
    map.spot(x, y);
    return map.move(layer, f, row, k);
  }

  static long route(LandMap map, int x1, int y1, int x2, int y2) {
    map.spot(x1, y1);
    map.spot(x2, y2);
    return map.route();
  }

  static int bar(LandMap map, int... places) {
    for (int i = 0; i + 1 < places.length; i += 2) map.spot(places[i], places[i + 1]);
    return map.bar();
  }

  /** A text with some bytes changed, put in or left out, or its end cut off. */
  static String spoil(Random random, String text, String bytes, int many) {
    StringBuilder out = new StringBuilder(text);
    for (int i = 0; i < many && out.length() > 0; i++) {
      int at = random.nextInt(out.length());
      char c = bytes.charAt(random.nextInt(bytes.length()));
      int how = random.nextInt(4);
      if (how == 0) out.deleteCharAt(at);
      else if (how == 1) out.insert(at, c);
      else if (how == 2) out.setCharAt(at, c);
      else out.setLength(at);
    }
    return out.toString();
  }

  /** A feature as the tests hold it: kind, value, and rows of places. */
  static final class Shape {
    int kind;
    int value;
    List<int[][]> rows = new ArrayList<>();

    Shape(int kind, int value) {
      this.kind = kind;
      this.value = value;
    }

    String text() {
      StringBuilder out = new StringBuilder();
      out.append(value).append(':').append("PLA".charAt(kind));
      for (int[][] row : rows) {
        out.append('(');
        for (int i = 0; i < row.length; i++) {
          if (i > 0) out.append(',');
          out.append(row[i][0]);
          if (row[i][1] >= 0) out.append(' ');
          out.append(row[i][1]);
        }
        out.append(')');
      }
      return out.toString();
    }
  }

  static Shape shapeOf(LandMap map, int layer, int f) {
    int kind = map.feature(layer, f, 0);
    if (kind < 0) return null;
    Shape shape = new Shape(kind, map.feature(layer, f, 1));
    for (int r = 0; r < map.feature(layer, f, 2); r++) {
      List<int[]> row = new ArrayList<>();
      for (int k = 0; map.at(layer, f, r, k, 0) != 1000000; k++) {
        row.add(new int[] {map.at(layer, f, r, k, 0), map.at(layer, f, r, k, 1)});
      }
      shape.rows.add(row.toArray(new int[0][]));
    }
    return shape;
  }
}
