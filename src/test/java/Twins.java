/**
 * Two maps with the same past, of which one gets a call that must be refused: all that can be asked
 * of the two afterwards must be answered alike, but for what tells of the refused call.
 */
final class Twins {
  static final int PLACE = 1;
  static final int RULE = 2;
  static final int WAY = 4;

  /** Calls that make a past. */
  interface Past {
    void on(LandMap map);
  }

  /** One call, its answer (a boolean as 1 or 0). */
  interface Call {
    long on(LandMap map);
  }

  private Twins() {}

  /** The call is refused with a code; tells has the marks of what may be told of it. */
  static void refused(String name, Past past, Call call, long code, int tells) {
    LandMap map = new LandMap();
    LandMap twin = new LandMap();
    past.on(map);
    past.on(twin);
    Feeder.due(name, call.on(map), code);
    String got = trace(map, tells);
    String want = trace(twin, tells);
    if (!got.equals(want)) tellFirst(name, got.split("\n"), want.split("\n"));
    Feeder.due(name + " changes nothing else", got.equals(want), true);
  }

  private static void tellFirst(String name, String[] got, String[] want) {
    for (int i = 0; i < got.length && i < want.length; i++) {
      if (got[i].equals(want[i])) continue;
      System.out.println(name + ": " + got[i] + " for " + want[i]);
      return;
    }
  }

  /** All that can be seen of a map, and what is left of its tray, spots, bars, states and corner. */
  static String trace(LandMap map, int tells) {
    StringBuilder out = new StringBuilder();
    if ((tells & PLACE) == 0) line(out, "place", map.place());
    if ((tells & RULE) == 0) line(out, "rule", map.rule(), map.broken());
    for (int k = 0; k < 9 && (tells & WAY) == 0; k++) line(out, "routeNode " + k, map.routeNode(k));
    layers(out, map);
    land(out, map);
    rasters(out, map);
    for (int i = 0; i < 9; i++) line(out, "relate " + i, map.relate(0, 0, i / 3, i % 3));
    line(out, "spots", map.spot(5, 5), map.spot(6, 6), map.spot(7, 7), map.bar());
    line(out, "raster of the corner", map.raster(3, 4, 4));
    rasters(out, map);
    line(out, "tray", map.feed(0x20202020, 0x50283720, 0x37292020, 0x20202020, 0x20202020), map.read(9), map.place());
    for (int n = 0; n < 40; n++) {
      int left = map.undo();
      line(out, "undo", left);
      layers(out, map);
      if (left < 0) break;
    }
    return out.toString();
  }

  static void layers(StringBuilder out, LandMap map) {
    for (int layer = 0; layer < 12; layer++) {
      line(out, "size of " + layer, map.size(layer, 0), map.size(layer, 1));
      for (int f = 0; f < map.size(layer, 0); f++) {
        Feeder.Shape shape = Feeder.shapeOf(map, layer, f);
        out.append(layer).append(' ').append(f).append(' ').append(shape == null ? "none" : shape.text()).append('\n');
      }
    }
  }

  static void land(StringBuilder out, LandMap map) {
    for (int what = 0; what < 6; what++) line(out, "laid " + what, map.laid(what));
    for (int n = 0; n < map.laid(0); n++) line(out, "node " + n, map.node(n, 0), map.node(n, 1), map.node(n, 2));
    for (int p = 0; p < map.laid(1); p++) {
      for (int what = 0; what < 6; what++) line(out, "piece " + p + " " + what, map.piece(p, what));
    }
    for (int f = 0; f < map.laid(2); f++) {
      for (int what = 0; what < 6; what++) line(out, "face " + f + " " + what, map.face(f, what));
      line(out, "faceArea2 " + f, map.faceArea2(f));
    }
    line(out, "locate", map.locate(0, 0), map.locate(1, 1), map.locate(3, 2));
  }

  private static void rasters(StringBuilder out, LandMap map) {
    for (int r = 0; r < 41; r++) {
      line(out, "raster " + r, map.rasterSize(r, 0), map.rasterSize(r, 1), map.rasterSize(r, 2));
      for (int i = 0; i < map.rasterSize(r, 0); i++) {
        for (int j = 0; j < map.rasterSize(r, 1); j++) line(out, "cell", i, j, map.cell(r, i, j));
      }
    }
  }

  private static void line(StringBuilder out, String name, long... answers) {
    out.append(name);
    for (long answer : answers) out.append(' ').append(answer);
    out.append('\n');
  }
}
