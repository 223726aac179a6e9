import java.lang.management.ManagementFactory;

/** What the document bounds, and the room that the dearest runs of 512 calls take. */
public final class LimitsTest {
  public static void main(String[] args) {
    features();
    placesInOne();
    placesForLife();
    hotPlaces();
    justEnough();
    overlays();
    overlayOfMany();
    room();
    Feeder.finish("LimitsTest");
  }

  private static void features() {
    LandMap map = new LandMap();
    Feeder.due("200 features", Feeder.read(map, 0, "P(0 0)".repeat(200)), 200);
    Feeder.due("no 201st", Feeder.read(map, 0, "P(0 0)"), -12);
    Feeder.due("place", map.place(), -1);
    Feeder.due("rule", map.rule(), 0);
    Feeder.due("-2 before -12", Feeder.read(map, 0, "L(1 1,1 1)"), -2);
    Feeder.due("-1 before -12", Feeder.read(map, 0, "L(1 1,1 1"), -1);
    Feeder.due("drop", map.drop(0, 7), 0);
    Feeder.due("numbers are not used again", Feeder.read(map, 0, "P(0 0)"), -12);
    Feeder.due("another layer", Feeder.read(map, 1, "P(0 0)".repeat(201)), -12);
    Feeder.due("none came", map.size(1, 0), 0);
    Feeder.due("250 features, the 231st broken", Feeder.read(map, 1, "P(0 0)".repeat(230) + "L(0 0,0 0)" + "P(0 0)".repeat(19)), -2);
    Feeder.due("broken", map.broken(), 230);
    Feeder.due("undo", map.undo(), 1);
    Feeder.due("undo", map.undo(), 0);
    Feeder.due("numbers come back", Feeder.read(map, 0, "P(0 0)"), 1);
  }

  private static String comb(int places) {
    StringBuilder text = new StringBuilder("L(");
    for (int i = 0; i < places; i++) text.append(i == 0 ? "" : ",").append(i % 2).append(' ').append(i % 3);
    return text.toString();
  }

  private static void placesInOne() {
    LandMap map = new LandMap();
    Feeder.due("2000 places", Feeder.read(map, 0, comb(2000) + ")"), 1);
    Feeder.due("2000 places", map.feature(0, 0, 3), 2000);
    String text = comb(2000) + ", \n";
    Feeder.due("2001 places", Feeder.read(map, 0, text + "9 9)"), -1);
    Feeder.due("2001 places", map.place(), text.length());
    Feeder.due("2001 places", Feeder.read(map, 0, text + "1234567890"), -1);
    Feeder.due("2001 places", map.place(), text.length());
    Feeder.due("2000 places and a comma", Feeder.read(map, 0, text), -1);
    Feeder.due("2000 places and a comma", map.place(), text.length());
    String rows = comb(1999) + ")(5 5,";
    Feeder.due("in two rows", Feeder.read(map, 0, rows + "6 6)"), -1);
    Feeder.due("in two rows", map.place(), rows.length());
  }

  private static void placesForLife() {
    LandMap map = new LandMap();
    Feeder.read(map, 0, comb(2000) + ")");
    for (int n = 1; n < 30; n++) Feeder.due("move", Feeder.move(map, 0, 0, 0, 0, -n, 0), 0);
    Feeder.due("60000 are made", Feeder.move(map, 0, 0, 0, 0, 7, 7), -12);
    Feeder.due("-2 before -12", Feeder.move(map, 0, 0, 0, 0, 1, 1), -2);
    Feeder.due("rule", map.rule(), 2);
    Feeder.due("not one more", Feeder.read(map, 1, "P(0 0)"), -12);
    Feeder.due("undo", map.undo(), 29);
    Feeder.due("counts stay", Feeder.read(map, 1, "P(0 0)"), -12);
    Feeder.due("drop", map.drop(0, 0), 0);
    LandMap nearly = new LandMap();
    Feeder.read(nearly, 0, comb(1999) + ")");
    for (int n = 1; n < 30; n++) Feeder.due("move", Feeder.move(nearly, 0, 0, 0, 0, -n, 0), 0);
    Feeder.due("27 more", Feeder.read(nearly, 1, "P(0 0)".repeat(26) + "A(0 0,1 0,0 1,0 0)"), 27);
    Feeder.due("no move", Feeder.move(nearly, 1, 0, 0, 0, 3, 3), -12);
    nearly.lay(1, -1);
    Feeder.due("no overlay", nearly.overlay(2, 0, false), -12);
    Feeder.due("but an empty one", nearly.overlay(2, 1, false), 0);
  }

  /** Lines across and up: n by n crossings. */
  private static void grid(LandMap map, int n, int m) {
    StringBuilder text = new StringBuilder();
    for (int i = 0; i < n; i++) text.append("L(-9 ").append(i * 3).append(",999 ").append(i * 3).append(')');
    StringBuilder up = new StringBuilder();
    for (int i = 0; i < m; i++) up.append("L(").append(i * 3).append("-9,").append(i * 3).append(" 999)");
    Feeder.due("lines", Feeder.read(map, 0, text.toString()), n);
    Feeder.due("lines", Feeder.read(map, 1, up.toString()), m);
  }

  private static void hotPlaces() {
    LandMap map = new LandMap();
    grid(map, 66, 66);
    int pieces = 66 * 67 * 2;
    Feeder.due("pieces", map.lay(0, 1), pieces);
    Feeder.due("faces", map.laid(2), 65 * 65 + 1);
    Feeder.due("strays", map.strays(), 0);
    Feeder.read(map, 0, "L(-9 198,999 198)");
    Feeder.due("just below 9000 pieces", map.lay(0, 1), 67 * 67 + 66 * 68);
    Feeder.read(map, 1, "L(198-9,198 999)");
    Feeder.due("more than 9000 pieces", map.lay(0, 1), -12);
    Feeder.due("what was laid stays", map.laid(1), 67 * 67 + 66 * 68);
    LandMap dense = new LandMap();
    grid(dense, 70, 85);
    Feeder.due("more than 6000 hot places", dense.lay(0, 1), -12);
    Feeder.due("nothing laid", dense.laid(1), -13);
    // The same line over and over: few hot places and pieces, many steps.
    LandMap steps = new LandMap();
    StringBuilder back = new StringBuilder("L(0 0");
    for (int i = 1; i < 1999; i++) back.append(i % 2 == 1 ? ",20 0" : ",0 0");
    Feeder.read(steps, 0, back + ")");
    StringBuilder points = new StringBuilder();
    for (int i = 1; i <= 9; i++) points.append("P(").append(i).append(" 0)");
    Feeder.read(steps, 1, points.toString());
    Feeder.due("1998 times 10 steps", steps.lay(0, 1), 10);
    Feeder.due("how often", steps.piece(0, 4), 1998);
    Feeder.read(steps, 1, "P(10 0)");
    Feeder.due("1998 times 11 steps", steps.lay(0, 1), -12);
  }

  private static String zigzag(int start, int places, int y) {
    StringBuilder text = new StringBuilder();
    for (int i = 0; i < places; i++) {
      text.append(i == 0 ? "" : ",").append(start - i).append(' ').append(y + 3 * (i % 2));
    }
    return text.toString();
  }

  private static void justEnough() {
    LandMap hot = new LandMap();
    for (int n = 0; n < 3; n++) Feeder.read(hot, 0, "L(" + zigzag(999, 2000, 10 * n) + ")");
    Feeder.due("6000 hot places", hot.lay(0, -1), 3 * 1999);
    Feeder.due("6000 hot places", hot.laid(3), 6000);
    Feeder.read(hot, 0, "P(0 50)");
    Feeder.due("6001 hot places", hot.lay(0, -1), -12);
    LandMap pieces = new LandMap();
    grid(pieces, 66, 67);
    Feeder.read(pieces, 0, "L(" + zigzag(-100, 24, 0) + ")");
    Feeder.due("9000 pieces", pieces.lay(0, 1), 9000);
    Feeder.read(pieces, 0, "L(-500 0,-501 5)");
    Feeder.due("9001 pieces", pieces.lay(0, 1), -12);
    LandMap steps = new LandMap();
    Feeder.read(steps, 0, "L(0 0" + ",1 0,0 0".repeat(999) + ")");
    for (int n = 0; n < 4; n++) Feeder.read(steps, 0, "L(0 0" + ",1 0,0 0".repeat(999) + ")");
    Feeder.read(steps, 1, "L(0 0,1 0" + ",0 0,1 0".repeat(999) + ")");
    Feeder.read(steps, 1, "L(0 0,1 0" + ",0 0,1 0".repeat(999) + ")");
    Feeder.due("13988 steps", steps.lay(0, 1), 1);
    Feeder.due("of a", steps.piece(0, 4), 5 * 1998);
    Feeder.due("of b", steps.piece(0, 5), 2 * 1999);
    LandMap many = new LandMap();
    Feeder.read(many, 0, "L(0 0" + ",10 0,0 0".repeat(999) + ")L(" + zigzag(-50, 21, 0) + ")");
    StringBuilder points = new StringBuilder();
    for (int i = 1; i <= 9; i++) points.append("P(").append(i).append(" 0)");
    Feeder.read(many, 1, points.toString());
    Feeder.due("20000 steps", many.lay(0, 1), 30);
    Feeder.read(many, 1, "L(-90 0,-91 5)");
    Feeder.due("20001 steps", many.lay(0, 1), -12);
  }

  /** A comb of so many places with a hole of four cut out by an overlay. */
  private static int overlayOf(int places) {
    LandMap map = new LandMap();
    Feeder.read(map, 0, "A(1000 0," + zigzag(1000, places - 3, 10) + ",-1100 0,1000 0)");
    Feeder.due("places", map.feature(0, 0, 3), places);
    Feeder.read(map, 1, "A(5 2,9 2,5 6,5 2)");
    map.lay(0, 1);
    return map.overlay(2, 2, false);
  }

  private static String triangles(int many, int y) {
    StringBuilder text = new StringBuilder();
    for (int i = 0; i < many; i++) {
      String start = 5 * i + " " + y;
      text.append("A(").append(start).append(',').append(5 * i + 3).append(' ').append(y).append(',');
      text.append(5 * i).append(' ').append(y + 3).append(',').append(start).append(')');
    }
    return text.toString();
  }

  private static void overlayOfMany() {
    Feeder.due("2000 places", overlayOf(1996), 1);
    Feeder.due("2001 places", overlayOf(1997), -12);
    LandMap map = new LandMap();
    Feeder.read(map, 0, triangles(100, 0));
    Feeder.read(map, 1, triangles(100, 9));
    map.lay(0, 1);
    Feeder.due("200 features", map.overlay(2, 0, false), 200);
    Feeder.read(map, 1, "A(0 20,1 20,0 21,0 20)");
    map.lay(0, 1);
    Feeder.due("201 features", map.overlay(3, 0, false), -12);
  }

  private static void overlays() {
    LandMap map = new LandMap();
    StringBuilder wide = new StringBuilder();
    StringBuilder high = new StringBuilder();
    for (int i = 0; i < 20; i++) {
      int y = 10 * i;
      wide.append("A(0 ").append(y).append(",500 ").append(y).append(",500 ").append(y + 5).append(",0 ").append(y + 5);
      wide.append(",0 ").append(y).append(')');
      high.append("A(").append(y).append("-9,").append(y + 5).append("-9,").append(y + 5).append(" 400,");
      high.append(y).append(" 400,").append(y).append("-9)");
    }
    Feeder.read(map, 0, wide.toString());
    Feeder.read(map, 1, high.substring(0, high.length() * 9 / 20).replaceAll("\\)[^)]*$", ")"));
    int many = map.size(1, 0);
    map.lay(0, 1);
    Feeder.due("crossings", map.overlay(2, 1, false), 20 * many);
    Feeder.read(map, 1, high.toString());
    map.lay(0, 1);
    Feeder.due("more than 200 features", map.overlay(2, 1, false), -12);
    Feeder.due("nothing changed", map.size(2, 0), 20 * many);
    Feeder.due("more than 2000 places in one", map.overlay(2, 0, false), -12);
    Feeder.due("nothing changed", map.size(2, 0), 20 * many);
    for (int f = 0; f < 5; f++) map.drop(0, f);
    map.lay(0, 1);
    Feeder.due("one whole", map.overlay(2, 0, false), 1);
    Feeder.due("places", map.feature(2, 0, 3), 217 + 5 * 14 * 19);
  }

  private static long made() {
    com.sun.management.ThreadMXBean bean = (com.sun.management.ThreadMXBean) ManagementFactory.getThreadMXBean();
    return bean.getThreadAllocatedBytes(Thread.currentThread().getId());
  }

  /** No run may make more than 7.3 million fields and elements; four bytes each is less than any has. */
  private static void room() {
    LandMap map = new LandMap();
    grid(map, 66, 66);
    map.lay(0, 1);
    long before = made();
    LandMap dear = new LandMap();
    grid(dear, 66, 66);
    Feeder.read(dear, 2, "1:" + comb(1500) + ")A(0 0,300 0,300 300,0 300,0 0)");
    for (int n = 0; n < 60; n++) {
      dear.lay(0, n % 2);
      dear.lay(0, 1);
      dear.other(0, n);
      dear.relate(2, 0, 0, 0);
      dear.relation(2, 1, 3);
      Feeder.route(dear, 0, 0, 195, 195);
      dear.overlay(5, n % 4, n % 8 < 4);
      Feeder.move(dear, 2, 0, 0, 0, -n, 0);
      Feeder.move(dear, 2, 0, 0, 0, 1, 1);
      if (n < 13) dear.raster(3, 50, 50);
      if (n < 13) Feeder.algebra(dear, "min(a,".repeat(39) + "sum(a,3)" + ")".repeat(39));
      if (n < 13) dear.spread(n, 0);
      dear.revalue(0, n, n);
    }
    long bytes = made() - before;
    System.out.println("bytes made by a dear run: " + bytes);
    Feeder.due("a dear run is small", bytes < 4L * 7300000, true);
    before = made();
    for (int n = 0; n < 100; n++) new LandMap();
    bytes = (made() - before) / 100;
    System.out.println("bytes made by a new object: " + bytes);
    Feeder.due("a new object is small", bytes < 20000, true);
  }
}
