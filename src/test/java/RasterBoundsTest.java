/** Term 8, promises 32 to 37: sizes and numbers of rasters, ints that wrap, depths and faults of algebra, spreading. */
public final class RasterBoundsTest {
  private static final int MOST = Integer.MAX_VALUE;
  private static final int LEAST = Integer.MIN_VALUE;
  private static final long BLANK = 3000000000L;
  private static final long NONE = 4000000000L;
  private static final Integer X = null;

  public static void main(String[] args) {
    sides();
    numbers();
    forty();
    outOfBounds();
    whatCellsShow();
    wrapping();
    dividing();
    comparing();
    blanks();
    order();
    windows();
    neighbours();
    depths();
    words();
    algebraNumbers();
    everyByte();
    noRaster();
    unlikeRasters();
    spreading();
    barredCells();
    refusedOnes();
    Feeder.finish("RasterBoundsTest");
  }

  /** Makes a raster with these cells, the first row lowest (j = 0); X is a blank cell. */
  private static int make(LandMap map, Integer[]... rows) {
    StringBuilder text = new StringBuilder();
    for (int j = 0; j < rows.length; j++) {
      for (int i = 0; i < rows[j].length; i++) {
        if (rows[j][i] == null) continue;
        int x = 4 * i + 1;
        int y = 4 * j + 1;
        text.append("A(" + x + " " + y + "," + (x + 2) + " " + y + "," + (x + 2) + " " + (y + 2) + ",");
        text.append(x + " " + (y + 2) + "," + x + " " + y + ")");
      }
    }
    map.lay(11, -1);
    map.overlay(10, 0, false);
    if (text.length() > 0) Feeder.read(map, 10, text.toString());
    int f = 0;
    for (Integer[] row : rows) {
      for (Integer cell : row) {
        if (cell != null) map.revalue(10, f++, cell);
      }
    }
    map.lay(10, -1);
    map.corner(2, 2);
    return map.raster(4, rows[0].length, rows.length);
  }

  private static Integer[] row(Integer... cells) {
    return cells;
  }

  /** A raster's cells are these. */
  private static void due(LandMap map, String name, int r, Integer[]... rows) {
    Feeder.due(name + ", w", map.rasterSize(r, 0), rows[0].length);
    Feeder.due(name + ", h", map.rasterSize(r, 1), rows.length);
    int filled = 0;
    for (int j = 0; j < rows.length; j++) {
      for (int i = 0; i < rows[j].length; i++) {
        Integer cell = rows[j][i];
        filled += cell == null ? 0 : 1;
        Feeder.due(name + ", cell " + i + " " + j, map.cell(r, i, j), cell == null ? BLANK : cell);
      }
    }
    Feeder.due(name + ", filled", map.rasterSize(r, 2), filled);
  }

  /** Rasters a to e of one cell each: the most, the least, blank, 7 and -7. */
  private static LandMap five() {
    LandMap map = new LandMap();
    Integer[] cells = {MOST, LEAST, X, 7, -7};
    for (int r = 0; r < 5; r++) Feeder.due("raster", make(map, row(cells[r])), r);
    return map;
  }

  private static void worth(String text, Integer want) {
    LandMap map = five();
    int r = Feeder.algebra(map, text);
    Feeder.due(text, r, 5);
    Feeder.due(text + ", no fault", map.place(), -1);
    if (r == 5) due(map, text, 5, row(want));
  }

  private static void fault(String text, int place) {
    LandMap map = five();
    Feeder.due("fault in " + text.replace('\n', '~'), Feeder.algebra(map, text), -1);
    Feeder.due("its place in " + text.replace('\n', '~'), map.place(), place);
    Feeder.due("no raster came", map.rasterSize(5, 0), -14);
  }

  private static void sides() {
    LandMap map = new LandMap();
    Feeder.due("nothing laid", map.raster(1, 1, 1), -13);
    Feeder.due("nor for the most", map.raster(10000, 50, 50), -13);
    int[][] wrong = {{0, 1, 1}, {-1, 1, 1}, {10001, 1, 1}, {LEAST, 1, 1}, {MOST, 1, 1}, {1, 0, 1}, {1, -1, 1}, {1, 51, 1},
        {1, MOST, 1}, {1, LEAST, 1}, {1, 1, 0}, {1, 1, -1}, {1, 1, 51}, {1, 1, MOST}, {1, 1, LEAST}};
    for (int[] w : wrong) Feeder.due("-14 before -13", map.raster(w[0], w[1], w[2]), -14);
    map.lay(0, -1);
    for (int[] w : wrong) Feeder.due("raster " + w[0] + " " + w[1] + " " + w[2], map.raster(w[0], w[1], w[2]), -14);
    int[][] right = {{1, 1, 1}, {10000, 1, 1}, {1, 50, 1}, {1, 1, 50}, {10000, 50, 50}};
    for (int r = 0; r < right.length; r++) {
      Feeder.due("raster", map.raster(right[r][0], right[r][1], right[r][2]), r);
      Feeder.due("w", map.rasterSize(r, 0), right[r][1]);
      Feeder.due("h", map.rasterSize(r, 1), right[r][2]);
      Feeder.due("filled", map.rasterSize(r, 2), 0);
    }
  }

  private static void numbers() {
    LandMap map = new LandMap();
    Feeder.due("none at first", map.cell(0, 0, 0), NONE);
    Feeder.due("none at first", map.rasterSize(0, 0), -14);
    Feeder.due("none at first", map.spread(0, 0), -14);
    make(map, row(1, 2, 3), row(4, X, 6));
    for (int r : new int[] {-1, 1, 40, LEAST, MOST}) {
      Feeder.due("cell of " + r, map.cell(r, 0, 0), NONE);
      for (int what = 0; what < 3; what++) Feeder.due("size of " + r, map.rasterSize(r, what), -14);
      Feeder.due("spread", map.spread(r, 0), -14);
      Feeder.due("spread", map.spread(0, r), -14);
    }
    for (int what : new int[] {-1, 3, LEAST, MOST}) Feeder.due("what " + what, map.rasterSize(0, what), -14);
    for (int i : new int[] {-1, 3, LEAST, MOST}) Feeder.due("i " + i, map.cell(0, i, 0), NONE);
    for (int j : new int[] {-1, 2, LEAST, MOST}) Feeder.due("j " + j, map.cell(0, 0, j), NONE);
    Feeder.due("the last", map.cell(0, 2, 1), 6);
    Feeder.due("blank", map.cell(0, 1, 1), BLANK);
    Feeder.due("five are not", map.rasterSize(0, 2), 5);
  }

  private static void forty() {
    LandMap map = new LandMap();
    make(map, row(1, 2));
    make(map, row(1), row(2));
    for (int r = 2; r < 38; r++) Feeder.due("raster", map.raster(1, 2, 1), r);
    Feeder.due("by algebra", Feeder.algebra(map, "a"), 38);
    Feeder.due("by spreading", map.spread(0, 0), 39);
    Feeder.due("no 41st", map.raster(1, 1, 1), -12);
    Feeder.due("nor by algebra", Feeder.algebra(map, "a"), -12);
    Feeder.due("no fault", map.place(), -1);
    Feeder.due("the text is used up", map.end(1), false);
    Feeder.due("nor by spreading", map.spread(0, 0), -12);
    Feeder.due("-14 before -12", map.raster(0, 1, 1), -14);
    Feeder.due("-1 before -12", Feeder.algebra(map, "a+"), -1);
    Feeder.due("its place", map.place(), 2);
    Feeder.due("-14 before -12", map.spread(0, 40), -14);
    Feeder.due("-1 before -12", map.spread(0, 1), -1);
    Feeder.due("the 40th stays", map.cell(39, 0, 0), 0);
    Feeder.due("there is no 41st", map.rasterSize(40, 0), -14);
    for (int n = 0; n < 30; n++) map.undo();
    Feeder.due("undo() gives none back", map.raster(1, 1, 1), -12);
    Feeder.due("nor does lay()", map.lay(0, -1), 0);
    Feeder.due("none", map.raster(1, 1, 1), -12);
  }

  private static void outOfBounds() {
    LandMap map = new LandMap();
    Feeder.read(map, 0, "6:A(499000 499000,500000 499000,500000 500000,499000 500000,499000 499000)"
        + "7:A(-500000-500000,-499000-500000,-499000-499000,-500000-499000,-500000-500000)");
    map.lay(0, -1);
    Feeder.due("corner", map.corner(499998, 499998), true);
    map.raster(1, 4, 4);
    due(map, "at the upper bound", 0, row(6, 6, X, X), row(6, 6, X, X), row(X, X, X, X), row(X, X, X, X));
    for (int[] p : new int[][] {{500001, 0}, {-500001, 0}, {0, 500001}, {0, -500001}, {LEAST, MOST}}) {
      Feeder.due("no corner", map.corner(p[0], p[1]), false);
    }
    map.raster(1, 1, 1);
    Feeder.due("the former stays", map.cell(1, 0, 0), 6);
    Feeder.due("corner", map.corner(-500000, -500000), true);
    map.raster(1, 3, 2);
    due(map, "at the lower bound", 2, row(X, X, X), row(X, 7, 7));
    Feeder.due("corner", map.corner(500000, 500000), true);
    map.raster(10000, 50, 50);
    Feeder.due("all beyond", map.rasterSize(3, 2), 0);
    // At first the corner is (0, 0).
    LandMap fresh = new LandMap();
    Feeder.read(fresh, 0, "6:A(-1-1,1-1,1 1,-1 1,-1-1)");
    fresh.lay(0, -1);
    fresh.raster(1, 2, 2);
    due(fresh, "at first", 0, row(6, X), row(X, X));
  }

  private static void whatCellsShow() {
    LandMap map = new LandMap();
    Feeder.read(map, 0, "1:P(3 3)2:L(0 5,8 5)3:A(0 0,8 0,8 8,0 8,0 0)(2 6,6 6,6 7,2 7,2 6)4:A(4 0,12 0,12 8,4 8,4 0)");
    Feeder.read(map, 1, "9:A(20 0,28 0,28 8,20 0)9:L(1 0,1 8)9:P(2 2)9:P(10 3)");
    map.lay(0, 1);
    map.raster(1, 14, 9);
    Feeder.due("in the first", map.cell(0, 3, 1), 3);
    Feeder.due("in both the least", map.cell(0, 6, 1), 3);
    Feeder.due("in the second", map.cell(0, 9, 1), 4);
    Feeder.due("in none", map.cell(0, 13, 1), BLANK);
    Feeder.due("on a border", map.cell(0, 0, 1), BLANK);
    Feeder.due("on a border within", map.cell(0, 4, 1), BLANK);
    Feeder.due("on a point", map.cell(0, 3, 3), BLANK);
    Feeder.due("on a point of b", map.cell(0, 2, 2), BLANK);
    Feeder.due("on a line", map.cell(0, 3, 5), BLANK);
    Feeder.due("on a line of b", map.cell(0, 1, 4), BLANK);
    Feeder.due("on a point of b in the second", map.cell(0, 10, 3), BLANK);
    map.corner(22, 1);
    map.raster(1, 1, 1);
    Feeder.due("areas of b count nothing", map.cell(1, 0, 0), BLANK);
    map.corner(3, 6);
    map.raster(1, 1, 1);
    Feeder.due("on a hole's border", map.cell(2, 0, 0), BLANK);
    int[] values = {LEAST, -1, 0, MOST};
    for (int v : values) {
      map.revalue(0, 2, v);
      map.lay(0, -1);
      map.corner(3, 1);
      int r = map.raster(1, 1, 1);
      Feeder.due("value " + v, map.cell(r, 0, 0), v);
      Feeder.due("it is not blank", map.rasterSize(r, 2), 1);
    }
  }

  private static void wrapping() {
    worth("a+1", LEAST);
    worth("b-1", MOST);
    worth("a+a", -2);
    worth("b+b", 0);
    worth("a-b", -1);
    worth("b-a", 1);
    worth("a*2", -2);
    worth("a*a", 1);
    worth("b*b", 0);
    worth("b*-1", LEAST);
    worth("-b", LEAST);
    worth("-a", LEAST + 1);
    worth("abs(b)", LEAST);
    worth("abs(a)", MOST);
    worth("abs(e)", 7);
    worth("abs(d)", 7);
    worth("min(a,b)", LEAST);
    worth("max(a,b)", MOST);
    worth("999999999*d", -1589934599);
  }

  private static void dividing() {
    worth("d/2", 3);
    worth("e/2", -3);
    worth("d/-2", -3);
    worth("e/-2", 3);
    worth("d%2", 1);
    worth("e%2", -1);
    worth("d%-2", 1);
    worth("e%-2", -1);
    worth("d/8", 0);
    worth("e/8", 0);
    worth("d%7", 0);
    worth("b/-1", LEAST);
    worth("b%-1", 0);
    worth("a/-1", LEAST + 1);
    worth("b/b", 1);
    worth("b/a", -1);
    worth("b%a", -1);
    worth("d/0", X);
    worth("d%0", X);
    worth("0*d/0", X);
    worth("b/0", X);
    worth("b%0", X);
    worth("0*d%0", X);
    worth("0/d", 0);
  }

  private static void comparing() {
    String[] signs = {"<", "<=", ">", ">=", "=", "#"};
    int[][] due = {{0, 0, 1, 1, 0, 1}, {1, 1, 0, 0, 0, 1}, {0, 1, 0, 1, 1, 0}};
    String[][] pairs = {{"a", "b"}, {"b", "a"}, {"d", "7"}};
    for (int p = 0; p < 3; p++) {
      for (int s = 0; s < 6; s++) worth(pairs[p][0] + signs[s] + pairs[p][1], due[p][s]);
    }
    worth("d<8", 1);
    worth("d>6", 1);
    worth("d<= 7", 1);
    worth("d< =7", 1);
    worth("d>\n = 8", 0);
    worth("(1<2)=d/7", 1);
    fault("d<7<8", 3);
    fault("d=7=1", 3);
    fault("d==7", 2);
    fault("d=<7", 2);
    fault("d<>7", 2);
    fault("d<=>7", 3);
    fault("d<==7", 3);
    fault("d##7", 2);
    fault("d!7", 1);
  }

  private static void blanks() {
    String[] blank = {"c", "-c", "c+1", "1+c", "c-1", "c*0", "0*c", "c/1", "1%c", "c<1", "1>=c", "c=c", "c#1", "abs(c)", "min(c,1)",
        "max(1,c)", "or(c,c)", "c?1:2", "d?c:1", "0*d?1:c", "sum(c,3)", "top(c,0)", "low(c,1)", "at(c,0,0)", "blank(c)+c"};
    for (String text : blank) worth(text, X);
    worth("blank(c)", 1);
    worth("blank(d)", 0);
    worth("blank(0*d)", 0);
    worth("blank(d/0)", 1);
    worth("blank(blank(c))", 0);
    worth("or(c,5)", 5);
    worth("or(d,5)", 7);
    worth("or(0*d,5)", 0);
    worth("or(d,c)", 7);
    worth("or(d/0,d)", 7);
    // Of a choice just what is taken counts.
    worth("d?1:c", 1);
    worth("d?1:d/0", 1);
    worth("0*d?d/0:3", 3);
    worth("e?1:2", 1);
    worth("b?1:2", 1);
    worth("0*d?1:2", 2);
  }

  private static void order() {
    worth("2+3*4-5+0*d", 9);
    worth("20-5-4+0*d", 11);
    worth("100/5/2+0*d", 10);
    worth("100/5*2+0*d", 40);
    worth("7*100%9+0*d", 7);
    worth("1+2<2+1+0*d", 0);
    worth("-d+8", 1);
    worth("-d*e", 49);
    worth("--d", 7);
    worth("d--d", 14);
    worth("d - - - d", 0);
    worth("2*-d", -14);
    worth("d<8?1:2", 1);
    worth("d>8?1:d>6?2:3", 2);
    worth("d?0*d?1:2:3", 2);
    worth("(d?1:2)+5", 6);
    worth("d?1:2+5", 1);
    worth(" ( ( d ) )\n", 7);
    worth("min(max(1,d),min(9,8))", 7);
  }

  private static void windows() {
    LandMap map = new LandMap();
    make(map, row(1, 2, X, 4, 5, X, X, X, X));
    String[] names = {"sum", "top", "low"};
    Integer[][][] due = {
        {{1, 2, X, 4, 5, X, X, X, X}, {3, 3, 6, 9, 9, 5, X, X, X}, {3, 7, 12, 11, 9, 9, 5, X, X}, {7, 12, 12, 12, 11, 9, 9, 5, X}},
        {{1, 2, X, 4, 5, X, X, X, X}, {2, 2, 4, 5, 5, 5, X, X, X}, {2, 4, 5, 5, 5, 5, 5, X, X}, {4, 5, 5, 5, 5, 5, 5, 5, X}},
        {{1, 2, X, 4, 5, X, X, X, X}, {1, 1, 2, 4, 4, 5, X, X, X}, {1, 1, 1, 2, 4, 4, 5, X, X}, {1, 1, 1, 1, 2, 4, 4, 5, X}}};
    int r = 1;
    for (int n = 0; n < 3; n++) {
      for (int k = 0; k < 4; k++) {
        String text = names[n] + "(a," + k + ")";
        Feeder.due(text, Feeder.algebra(map, text), r);
        due(map, text, r, row(due[n][k]));
        r++;
      }
    }
    // In both directions, and with the corners.
    LandMap square = new LandMap();
    make(square, row(1, 10, 100), row(1000, X, 10000), row(100000, 1000000, 10000000));
    Feeder.algebra(square, "sum(a,1)");
    due(square, "sum(a,1)", 1, row(1011, 11111, 10110), row(1101011, 11111111, 11010110), row(1101000, 11111000, 11010000));
    Feeder.algebra(square, "sum(a, 02 )");
    Feeder.due("all of them", square.cell(2, 0, 0), 11111111);
    LandMap wrap = new LandMap();
    make(wrap, row(MOST, 1, LEAST));
    Feeder.algebra(wrap, "sum(a,1)");
    due(wrap, "sums wrap", 1, row(LEAST, 0, LEAST + 1));
    Feeder.algebra(wrap, "top(a,1)-low(a,1)");
    due(wrap, "top and low", 2, row(MOST - 1, -1, LEAST + 1));
  }

  private static void neighbours() {
    LandMap map = new LandMap();
    make(map, row(1, 2, 3), row(4, X, 6));
    String[] texts = {"at(a,0,0)", "at(a,1,0)", "at(a,-1,0)", "at(a,0,1)", "at(a,0,-1)", "at(a,2,1)", "at(a,-2,-1)", "at(a,3,0)",
        "at(a,0,2)", "at(a,-50,50)", "at(a,50,-50)", "at(a+1,1,0)", "at( a , -0 , 001 )"};
    Integer[][][] due = {{{1, 2, 3}, {4, X, 6}}, {{2, 3, X}, {X, 6, X}}, {{X, 1, 2}, {X, 4, X}}, {{4, X, 6}, {X, X, X}},
        {{X, X, X}, {1, 2, 3}}, {{6, X, X}, {X, X, X}}, {{X, X, X}, {X, X, 1}}, {{X, X, X}, {X, X, X}}, {{X, X, X}, {X, X, X}},
        {{X, X, X}, {X, X, X}}, {{X, X, X}, {X, X, X}}, {{3, 4, X}, {X, 7, X}}, {{4, X, 6}, {X, X, X}}};
    for (int t = 0; t < texts.length; t++) {
      Feeder.due(texts[t], Feeder.algebra(map, texts[t]), t + 1);
      due(map, texts[t], t + 1, row(due[t][0]), row(due[t][1]));
    }
    LandMap wide = new LandMap();
    Feeder.read(wide, 0, "5:A(-1-1,1-1,1 1,-1 1,-1-1)6:A(48 48,50 48,50 50,48 50,48 48)");
    wide.lay(0, -1);
    wide.raster(1, 50, 50);
    Feeder.algebra(wide, "at(a,49,49)");
    Feeder.due("the far corner", wide.cell(1, 0, 0), 6);
    Feeder.algebra(wide, "at(a,-49,-49)");
    Feeder.due("the near corner", wide.cell(2, 49, 49), 5);
    Feeder.algebra(wide, "at(a,50,49)");
    Feeder.due("beyond", wide.rasterSize(3, 2), 0);
  }

  /** Forty deep is fine, one more is a fault at the byte behind which it stands. */
  private static void depths() {
    worth("(".repeat(39) + "d" + ")".repeat(39), 7);
    fault("(".repeat(40) + "d" + ")".repeat(40), 39);
    fault("(".repeat(40), 39);
    fault(" ( ".repeat(40), 3 * 39 + 1);
    worth("-".repeat(39) + "d", -7);
    fault("-".repeat(40) + "d", 39);
    fault("-".repeat(40), 39);
    worth("d?1:".repeat(39) + "2", 1);
    fault("d?1:".repeat(40) + "2", 39 * 4 + 1);
    worth("d?".repeat(39) + "d" + ":1".repeat(39), 7);
    fault("d?".repeat(40) + "d" + ":1".repeat(40), 39 * 2 + 1);
    worth("0*d?1:".repeat(39) + "d", 7);
    worth("abs(".repeat(39) + "e" + ")".repeat(39), 7);
    fault("abs(".repeat(40) + "e" + ")".repeat(40), 39 * 4 + 3);
    fault("abs\n(".repeat(40) + "e" + ")".repeat(40), 39 * 5 + 4);
    worth("min(d,".repeat(39) + "9" + ")".repeat(39), 7);
    fault("min(d,".repeat(40) + "9" + ")".repeat(40), 39 * 6 + 3);
    worth("sum(".repeat(39) + "d" + ",0)".repeat(39), 7);
    fault("sum(".repeat(40) + "d" + ",0)".repeat(40), 39 * 4 + 3);
    worth("at(".repeat(39) + "d" + ",0,0)".repeat(39), 7);
    fault("at(".repeat(40) + "d" + ",0,0)".repeat(40), 39 * 3 + 2);
    worth("1<1+1*min(1,".repeat(39) + "1<1+1*d" + ")".repeat(39), 1);
    worth("1<1+1*min(d,".repeat(39) + "1<1+1*d" + ")".repeat(39), 1);
    // A minus between two, signs and comparing go no deeper.
    worth("d" + "-0".repeat(100), 7);
    worth("(".repeat(39) + "1-1+d*1/1<9" + ")".repeat(39), 1);
    fault("(".repeat(39) + "1-1+d*1/1<-9" + ")".repeat(39), 39 + 10);
    fault("(".repeat(39) + "1?d:d" + ")".repeat(39), 39 + 1);
    worth("(".repeat(37) + "0*d?-d:d" + ")".repeat(37), 7);
    fault("(".repeat(38) + "0*d?-d:d" + ")".repeat(38), 38 + 4);
    worth("(".repeat(38) + "0*d?1:d" + ")".repeat(38), 7);
    fault("(".repeat(38) + "0*d?1:-d" + ")".repeat(38), 38 + 6);
    // Depth is of what a part stands in, not of all before it.
    worth("(".repeat(39) + "d" + ")".repeat(39) + "+" + "(".repeat(39) + "d" + ")".repeat(39), 14);
    worth("(" + "-".repeat(38) + "d" + ")*" + "-".repeat(39) + "d", -49);
    fault("(" + "-".repeat(39) + "d" + ")", 39);
  }

  private static void words() {
    fault("f", 0);
    fault("d+f", 2);
    fault("d+j", 2);
    fault("k", 0);
    fault("d+z", 2);
    fault("dd", 0);
    fault("dz", 0);
    fault("zd", 0);
    fault("az(d)", 0);
    fault("minz(d,d)", 0);
    fault("d+ab", 2);
    fault("d d", 2);
    fault("d(1)", 1);
    fault("min", 0);
    fault("d+min", 2);
    fault("d+min d", 2);
    fault("d+min)", 2);
    fault("minn(d,d)", 0);
    fault("mi n(d,d)", 0);
    fault("mi", 0);
    fault("Min(d,d)", 0);
    fault("mind(d,d)", 0);
    fault("sumd(d,1)", 0);
    fault("D", 0);
    worth("min (d,9)", 7);
    worth("min\n \n( d , 9 )", 7);
    worth("or(d,9)", 7);
    fault("ord,9)", 0);
    fault("min(d)", 5);
    fault("min(d,9,9)", 7);
    fault("min(d,9", 7);
    fault("min(d,", 6);
    fault("min(", 4);
    fault("min()", 4);
    fault("abs(d,9)", 5);
    fault("blank(d,9)", 7);
    fault("or(d)", 4);
    fault("sum(d)", 5);
    fault("at(d,1)", 6);
    fault("at(d)", 4);
    fault("at(d,1,1,1)", 8);
    String[] names = {"min", "max", "or", "abs", "blank", "sum", "top", "low", "at"};
    for (String name : names) {
      fault(name, 0);
      fault(name + " ", 0);
      fault("d+" + name + "+d", 2);
      fault(name + "(", name.length() + 1);
      fault(name.substring(0, name.length() - 1) + "(d,1)", name.equals("at") ? 1 : 0);
    }
  }

  private static void algebraNumbers() {
    worth("999999999+0*d", 999999999);
    worth("000000005+0*d", 5);
    fault("1000000000+d", 9);
    fault("d+0000000000", 11);
    fault("d+1 2", 4);
    fault("d+1d", 3);
    fault("d+1.5", 3);
    String[] names = {"sum", "top", "low"};
    for (String name : names) {
      worth(name + "(d,3)", 7);
      worth(name + "(d,000000003)", 7);
      fault(name + "(d,4)", 6);
      fault(name + "(d,10)", 6);
      fault(name + "(d,04)", 6);
      fault(name + "(d,1", 7);
      fault(name + "(d,1x", 7);
      fault(name + "(d, \n4", 8);
      fault(name + "(d,999999999)", 6);
      fault(name + "(d,-1)", 6);
      fault(name + "(d,d)", 6);
      fault(name + "(d,(1))", 6);
      fault(name + "(d,1+1)", 7);
      fault(name + "(d,)", 6);
      fault(name + "(d,0000000003)", 15);
      fault(name + "(d,9999999999)", 15);
    }
    worth("at(d,50,-50)", X);
    worth("at(d,-50,50)", X);
    worth("at(d,-000000000,0)", 7);
    fault("at(d,51,0)", 5);
    fault("at(d,-51,0)", 5);
    fault("at(d,0,51)", 7);
    fault("at(d,0,-51)", 7);
    fault("at(d,0,-51", 7);
    fault("at(d,999999999,0)", 5);
    fault("at(d,- 1,0)", 6);
    fault("at(d,--1,0)", 6);
    fault("at(d,-,0)", 6);
    fault("at(d,0,-0000000001)", 17);
    fault("at(d,1d,0)", 6);
    fault("at(d,a,0)", 5);
    // From the left the first fault is told.
    fault("at(d,51,52)", 5);
    fault("at(z,51,52)", 3);
    fault("sum(d,4)+z", 6);
    fault("z+sum(d,4)", 0);
  }

  private static void next(String begin, String goesOn, String whole) {
    LandMap map = five();
    for (int c = 0; c < 256; c++) {
      // A small letter makes or goes on with a word: words() looks at these.
      if (c >= 'a' && c <= 'z') continue;
      String text = begin + (char) c;
      int r = Feeder.algebra(map, text);
      String name = "byte " + c + " behind " + begin;
      boolean fine = whole.indexOf(c) >= 0;
      Feeder.due(name, r >= 0, fine);
      Feeder.due(name + ", place", map.place(), fine ? -1 : goesOn.indexOf(c) >= 0 ? text.length() : begin.length());
    }
  }

  private static void everyByte() {
    String digits = "0123456789";
    String blanks = " \n";
    String signs = "+-*/%<>=#?";
    next("", digits + blanks + "(-", "");
    next("d", signs, blanks);
    next("d ", signs, blanks);
    next("d+1", signs, digits + blanks);
    next("d+", blanks + "(-", digits);
    next("d*", blanks + "(-", digits);
    next("d<", blanks + "(-=", digits);
    next("d>", blanks + "(-=", digits);
    next("d<=", blanks + "(-", digits);
    next("d<1", "+-*/%?", digits + blanks);
    next("d=", blanks + "(-", digits);
    next("d#", blanks + "(-", digits);
    next("d?", digits + blanks + "(-", "");
    next("d?1", digits + blanks + signs + ":", "");
    next("d?1:", blanks + "(-", digits);
    next("d?1:2", signs, digits + blanks);
    next("(d", blanks + signs, ")");
    next("(d)", signs, blanks);
    next("abs(d", blanks + signs, ")");
    next("min(d", blanks + signs + ",", "");
    next("min(d,", digits + blanks + "(-", "");
    next("min(d,1", digits + blanks + signs, ")");
    next("sum(d", blanks + signs + ",", "");
    next("sum(d,", blanks + "0123", "");
    next("sum(d,1 ", blanks, ")");
    next("at(d,", digits + blanks + "-", "");
    next("at(d,-", digits, "");
    next("at(d,0,0", digits + blanks, ")");
    next("at(d,0,0)", signs, blanks);
  }

  private static void noRaster() {
    fault("1", 1);
    fault("1+2 \n", 5);
    fault("min(1,2)", 8);
    fault("1?2:3", 5);
    fault("", 0);
    fault("  ", 2);
    fault("1+", 2);
    fault("(1", 2);
    fault("1)", 1);
    worth("1?2:d", 2);
    worth("0*d+4", 4);
    LandMap map = new LandMap();
    Feeder.due("no raster at all", Feeder.algebra(map, "1"), -1);
    Feeder.due("at its length", map.place(), 1);
    Feeder.due("no raster a", Feeder.algebra(map, "1+a"), -1);
    Feeder.due("at its letter", map.place(), 2);
    Feeder.due("an empty tray", map.algebra(), -1);
    Feeder.due("at its length", map.place(), 0);
  }

  private static void unlikeRasters() {
    LandMap map = new LandMap();
    make(map, row(1, 2));
    make(map, row(3), row(4));
    make(map, row(5, 6));
    Feeder.due("of one size", Feeder.algebra(map, "a+c"), 3);
    due(map, "a+c", 3, row(6, 8));
    Feeder.due("the other size alone", Feeder.algebra(map, "b*b"), 4);
    due(map, "b*b", 4, row(9), row(16));
    String[] texts = {"a+b", "b+a", "a+c+b", "b+c", "a+b+z", "min(a,b)", "a?b:c", "a+f", "a+b+f"};
    int[] places = {2, 2, 4, 2, 2, 6, 2, 2, 2};
    for (int t = 0; t < texts.length; t++) {
      Feeder.due(texts[t], Feeder.algebra(map, texts[t]), -1);
      Feeder.due(texts[t] + ", place", map.place(), places[t]);
    }
    for (int r = 5; r < 12; r++) Feeder.due("more", Feeder.algebra(map, r + "+0*a"), r);
    Feeder.due("raster 9 is j", Feeder.algebra(map, "j"), 12);
    Feeder.due("its cell", map.cell(12, 0, 0), 9);
    Feeder.due("raster 10 has no letter", Feeder.algebra(map, "k"), -1);
    Feeder.due("at the word", map.place(), 0);
  }

  private static void spread(String name, Integer[][] costs, Integer[][] seeds, Integer[][] want) {
    LandMap map = new LandMap();
    Feeder.due("costs", make(map, costs), 0);
    Feeder.due("seeds", make(map, seeds), 1);
    Feeder.due(name, map.spread(0, 1), 2);
    due(map, name, 2, want);
    due(map, "costs stay", 0, costs);
    due(map, "seeds stay", 1, seeds);
  }

  private static void spreading() {
    spread("one cell", new Integer[][] {{5}}, new Integer[][] {{9}}, new Integer[][] {{0}});
    spread("no seed", new Integer[][] {{5, 5}}, new Integer[][] {{X, X}}, new Integer[][] {{X, X}});
    spread("a row", new Integer[][] {{1, 2, 3}}, new Integer[][] {{0, X, X}}, new Integer[][] {{0, 15, 40}});
    spread("from the other end", new Integer[][] {{1, 2, 3}}, new Integer[][] {{X, X, -5}}, new Integer[][] {{40, 25, 0}});
    spread("from both", new Integer[][] {{1, 1, 1, 1}}, new Integer[][] {{1, X, X, 1}}, new Integer[][] {{0, 10, 10, 0}});
    spread("up", new Integer[][] {{1}, {2}, {3}}, new Integer[][] {{1}, {X}, {X}}, new Integer[][] {{0}, {15}, {40}});
    spread("across", new Integer[][] {{1, 1}, {1, 1}}, new Integer[][] {{1, X}, {X, X}}, new Integer[][] {{0, 10}, {10, 14}});
    spread("round a dear cell", new Integer[][] {{1, 9, 1}, {1, 1, 1}}, new Integer[][] {{1, X, X}, {X, X, X}},
        new Integer[][] {{0, 50, 28}, {10, 14, 24}});
    // 7 times 10 across the corner, or 5 times 5 and 5 times 6 round it.
    spread("two steps for one", new Integer[][] {{5, 0}, {9, 5}}, new Integer[][] {{1, X}, {X, X}},
        new Integer[][] {{0, 25}, {70, 50}});
    spread("no cost", new Integer[][] {{0, 0, 0}}, new Integer[][] {{1, X, X}}, new Integer[][] {{0, 0, 0}});
    LandMap map = new LandMap();
    Feeder.read(map, 0, "1000:A(-1-1,60-1,60 60,-1 60,-1-1)2:A(-1-1,1-1,1 1,-1 1,-1-1)");
    map.lay(0, -1);
    map.raster(1, 50, 50);
    Feeder.due("a seed of a place on a piece is blank", map.cell(0, 1, 0), BLANK);
    Feeder.algebra(map, "or(a,1000)");
    Feeder.algebra(map, "at(at(b,-49,-49),49,49)");
    Feeder.due("one seed", map.rasterSize(2, 2), 1);
    map.spread(1, 2);
    Feeder.due("all across", map.cell(3, 49, 49), 49 * 14000);
    Feeder.due("all along", map.cell(3, 49, 0), 49 * 10000);
    Feeder.due("all are reached", map.rasterSize(3, 2), 2500);
  }

  private static void barredCells() {
    int[] costs = {0, 1, 1000};
    for (int c : costs) {
      spread("cost " + c, new Integer[][] {{c, c, c}}, new Integer[][] {{1, X, X}}, new Integer[][] {{0, 10 * c, 20 * c}});
    }
    for (Integer c : new Integer[] {-1, 1001, LEAST, MOST, X}) {
      spread("barred " + c, new Integer[][] {{1, c, 1}}, new Integer[][] {{1, X, X}}, new Integer[][] {{0, X, X}});
      spread("barred seed " + c, new Integer[][] {{1, c, 1}}, new Integer[][] {{X, 1, X}}, new Integer[][] {{X, X, X}});
      spread("one of two seeds " + c, new Integer[][] {{1, 1, c}}, new Integer[][] {{1, X, 1}}, new Integer[][] {{0, 10, X}});
      spread("between barred cells " + c, new Integer[][] {{1, c}, {c, 1}}, new Integer[][] {{1, X}, {X, X}},
          new Integer[][] {{0, X}, {X, 14}});
    }
    // A long way between walls.
    Integer[][] maze = {{1, 1, 1, 1, 1}, {-1, -1, -1, -1, 1}, {1, 1, 1, 1, 1}, {1, -1, -1, -1, -1}, {1, 1, 1, 1, 1}};
    Integer[][] seed = new Integer[5][5];
    seed[0][0] = 1;
    LandMap map = new LandMap();
    make(map, maze);
    make(map, seed);
    map.spread(0, 1);
    Feeder.due("at its end", map.cell(2, 4, 4), 3 * 10 + 14 + 14 + 2 * 10 + 14 + 14 + 3 * 10);
    Feeder.due("walls", map.rasterSize(2, 2), 17);
  }

  private static void past(LandMap map) {
    make(map, row(1, 2));
    make(map, row(3), row(4));
    map.corner(3, 3);
  }

  private static void refusedOnes() {
    Twins.refused("corner", RasterBoundsTest::past, map -> map.corner(500001, 1) ? 1 : 0, 0, 0);
    Twins.refused("raster", RasterBoundsTest::past, map -> map.raster(1, 51, 1), -14, 0);
    Twins.refused("spread of none", RasterBoundsTest::past, map -> map.spread(0, 2), -14, 0);
    Twins.refused("spread of another size", RasterBoundsTest::past, map -> map.spread(0, 1), -1, 0);
    Twins.refused("algebra with a fault", RasterBoundsTest::past, map -> Feeder.algebra(map, "a+b"), -1, Twins.PLACE);
    Twins.refused("algebra of nothing", RasterBoundsTest::past, LandMap::algebra, -1, Twins.PLACE);
    Twins.Past full = map -> {
      past(map);
      for (int r = 2; r < 40; r++) map.raster(1, 1, 1);
    };
    Twins.refused("a 41st raster", full, map -> map.raster(1, 1, 1), -12, 0);
    Twins.refused("a 41st by algebra", full, map -> Feeder.algebra(map, "a"), -12, 0);
    Twins.refused("a 41st by spreading", full, map -> map.spread(0, 0), -12, 0);
  }
}
