import java.util.ArrayList;
import java.util.List;
import java.util.Random;

/** Promises 34 to 37: random formulas over random rasters, places of faults, depths, and spreading. */
public final class AlgebraTest {
  private static final String BYTES = "abcdefjk()?:,+-*/%<>=#  \n0123456789minaxorbslkutpw.A\u0000\u00ff";
  private static final int CELLS = 5 * 4;

  public static void main(String[] args) {
    int rounds = args.length > 0 ? Integer.parseInt(args[0]) : 3000;
    long seed = args.length > 1 ? Long.parseLong(args[1]) : 1;
    for (int round = 0; round < rounds; round++) {
      Random random = new Random(seed * 15485863 + round);
      LandMap map = new LandMap();
      List<Integer[]> known = rasters(map, random);
      for (int n = 0; n < 6; n++) {
        Part part = part(random, known, 4);
        String text = part.text;
        Integer[] want = part.cells;
        if (random.nextInt(3) == 0) {
          text = Feeder.spoil(random, text, BYTES, 1 + random.nextInt(2));
          want = null;
        }
        check(map, known, text, want);
      }
      spread(map, known, random);
    }
    depths();
    sizes();
    Feeder.finish("AlgebraTest");
  }

  /** Rasters a, b and c of 5 by 4 cells, made by algebra out of one that shows four squares. */
  private static List<Integer[]> rasters(LandMap map, Random random) {
    List<Integer[]> known = new ArrayList<>();
    StringBuilder text = new StringBuilder();
    Integer[] cells = new Integer[CELLS];
    for (int c = 0; c < CELLS; c++) {
      if (random.nextInt(3) == 0) continue;
      int x = 4 * (c % 5);
      int y = 4 * (c / 5);
      cells[c] = random.nextInt(5) == 0 ? random.nextInt(1999999999) - 999999999 : random.nextInt(9) - 2;
      text.append(cells[c]).append(":A(");
      text.append(x - 1).append(' ').append(y - 1).append(',').append(x + 1).append(' ').append(y - 1).append(',');
      text.append(x + 1).append(' ').append(y + 1).append(',').append(x - 1).append(' ').append(y + 1).append(',');
      text.append(x - 1).append(' ').append(y - 1).append(')');
    }
    if (text.length() > 0) Feeder.read(map, 0, text.toString().replace(" -", "-"));
    map.lay(0, -1);
    Feeder.due("raster", map.raster(4, 5, 4), 0);
    known.add(cells);
    for (int r = 1; r < 3; r++) {
      Part part = part(random, known, 2);
      check(map, known, part.text, part.cells);
    }
    return known;
  }

  private static void check(LandMap map, List<Integer[]> known, String text, Integer[] want) {
    int fault = fault(text, known.size());
    int r = Feeder.algebra(map, text);
    if (want != null) Feeder.due("fault due in " + text, fault, -1);
    Feeder.due("place in " + text.replace('\n', '~'), map.place(), fault);
    Feeder.due("algebra " + text, r, fault >= 0 ? -1 : known.size());
    if (r < 0 || fault >= 0) return;
    Integer[] cells = new Integer[CELLS];
    int filled = 0;
    for (int c = 0; c < CELLS; c++) {
      long got = map.cell(r, c % 5, c / 5);
      cells[c] = got == 3000000000L ? null : (Integer) (int) got;
      filled += cells[c] == null ? 0 : 1;
      if (want == null) continue;
      Feeder.due("cell " + c % 5 + " " + c / 5 + " of " + text, got, want[c] == null ? 3000000000L : want[c]);
    }
    Feeder.due("filled cells of " + text, map.rasterSize(r, 2), filled);
    Feeder.due("width of " + text, map.rasterSize(r, 0), 5);
    Feeder.due("height of " + text, map.rasterSize(r, 1), 4);
    known.add(cells);
  }

  /** A part of a formula: its text, how tightly it binds (0 a choice .. 4 a unit), and its cells. */
  private static final class Part {
    final String text;
    final int binds;
    final Integer[] cells;

    Part(String text, int binds, Integer[] cells) {
      this.text = text;
      this.binds = binds;
      this.cells = cells;
    }
  }

  private static String gap(Random random) {
    int kind = random.nextInt(8);
    return kind == 0 ? " " : kind == 1 ? "\n " : "";
  }

  private static String as(Random random, Part part, int binds) {
    String text = gap(random) + part.text + gap(random);
    return part.binds >= binds ? text : gap(random) + "(" + text + ")" + gap(random);
  }

  private static Part part(Random random, List<Integer[]> known, int deep) {
    Part part = anyPart(random, known, deep);
    if (part.text.matches("(?s).*(?<![a-z])[a-j](?![a-z]).*")) return part;
    Part raster = raster(random, known);
    Integer[] cells = new Integer[CELLS];
    for (int c = 0; c < CELLS; c++) cells[c] = raster.cells[c] == null ? part.cells[c] : raster.cells[c];
    return new Part("or(" + raster.text + "," + part.text + ")", 4, cells);
  }

  private static Part raster(Random random, List<Integer[]> known) {
    int r = random.nextInt(Math.min(10, known.size()));
    return new Part(Character.toString('a' + r), 4, known.get(r));
  }

  private static Part anyPart(Random random, List<Integer[]> known, int deep) {
    int kind = deep == 0 ? random.nextInt(3) : random.nextInt(16);
    if (kind <= 1) return raster(random, known);
    if (kind == 2) {
      int n = random.nextInt(3) == 0 ? random.nextInt(1000000000) : random.nextInt(6);
      Integer[] cells = new Integer[CELLS];
      for (int c = 0; c < CELLS; c++) cells[c] = n;
      return new Part((random.nextInt(5) == 0 && n < 10000 ? "000" : "") + n, 4, cells);
    }
    Part x = anyPart(random, known, deep - 1);
    Part y = anyPart(random, known, deep - 1);
    if (kind <= 4) return times(random, x, y);
    if (kind <= 6) return plus(random, x, y);
    if (kind <= 8) return compare(random, x, y);
    if (kind == 9) return choice(random, x, y, anyPart(random, known, deep - 1));
    if (kind == 10) {
      Integer[] cells = new Integer[CELLS];
      for (int c = 0; c < CELLS; c++) cells[c] = x.cells[c] == null ? null : (Integer) (-x.cells[c]);
      return new Part("-" + as(random, x, 4), 4, cells);
    }
    if (kind <= 13) return call(random, x, y);
    return around(random, x);
  }

  private static Part both(String text, int binds, int op, Part x, Part y) {
    Integer[] cells = new Integer[CELLS];
    for (int c = 0; c < CELLS; c++) {
      if (x.cells[c] == null || y.cells[c] == null) continue;
      int a = x.cells[c];
      int b = y.cells[c];
      if ((op == '/' || op == '%') && b == 0) continue;
      long wide = op == '+' ? (long) a + b : op == '-' ? (long) a - b : op == '*' ? (long) a * b
          : op == '/' ? (long) a / b : op == '%' ? (long) a % b : op == '<' ? (a < b ? 1 : 0)
          : op == 'l' ? (a <= b ? 1 : 0) : op == '>' ? (a > b ? 1 : 0) : op == 'g' ? (a >= b ? 1 : 0)
          : op == '=' ? (a == b ? 1 : 0) : op == '#' ? (a != b ? 1 : 0) : op == 'm' ? Math.min(a, b) : Math.max(a, b);
      cells[c] = (int) wide;
    }
    return new Part(text, binds, cells);
  }

  private static Part times(Random random, Part x, Part y) {
    char op = "*/%".charAt(random.nextInt(3));
    return both(as(random, x, 3) + op + as(random, y, 4), 3, op, x, y);
  }

  private static Part plus(Random random, Part x, Part y) {
    char op = "+-".charAt(random.nextInt(2));
    return both(as(random, x, 2) + op + as(random, y, 3), 2, op, x, y);
  }

  private static Part compare(Random random, Part x, Part y) {
    char op = "<l>g=#".charAt(random.nextInt(6));
    String sign = op == 'l' ? "<" + gap(random) + "=" : op == 'g' ? ">" + gap(random) + "=" : "" + op;
    return both(as(random, x, 2) + sign + as(random, y, 2), 1, op, x, y);
  }

  private static Part choice(Random random, Part x, Part y, Part z) {
    Integer[] cells = new Integer[CELLS];
    for (int c = 0; c < CELLS; c++) {
      cells[c] = x.cells[c] == null ? null : x.cells[c] != 0 ? y.cells[c] : z.cells[c];
    }
    return new Part(as(random, x, 1) + "?" + as(random, y, 0) + ":" + as(random, z, 0), 0, cells);
  }

  private static Part call(Random random, Part x, Part y) {
    int kind = random.nextInt(5);
    String one = gap(random) + "(" + as(random, x, 0) + ")";
    String two = gap(random) + "(" + as(random, x, 0) + "," + as(random, y, 0) + ")";
    if (kind == 0) return both("min" + two, 4, 'm', x, y);
    if (kind == 1) return both("max" + two, 4, 'M', x, y);
    Integer[] cells = new Integer[CELLS];
    for (int c = 0; c < CELLS; c++) {
      if (kind == 2) cells[c] = x.cells[c] == null ? y.cells[c] : x.cells[c];
      if (kind == 3) cells[c] = x.cells[c] == null ? null : (Integer) Math.abs(x.cells[c]);
      if (kind == 4) cells[c] = x.cells[c] == null ? 1 : 0;
    }
    return new Part(kind == 2 ? "or" + two : kind == 3 ? "abs" + one : "blank" + one, 4, cells);
  }

  private static Part around(Random random, Part x) {
    int kind = random.nextInt(4);
    Integer[] cells = new Integer[CELLS];
    int k = random.nextInt(4);
    int dx = random.nextInt(7) - 3;
    int dy = random.nextInt(7) - 3;
    for (int c = 0; c < CELLS; c++) {
      int i = c % 5;
      int j = c / 5;
      if (kind == 3) {
        boolean in = i + dx >= 0 && i + dx < 5 && j + dy >= 0 && j + dy < 4;
        cells[c] = in ? x.cells[(j + dy) * 5 + i + dx] : null;
        continue;
      }
      for (int d = 0; d < CELLS; d++) {
        if (Math.abs(d % 5 - i) > k || Math.abs(d / 5 - j) > k || x.cells[d] == null) continue;
        int v = x.cells[d];
        cells[c] = cells[c] == null ? v : kind == 0 ? cells[c] + v : kind == 1 ? Math.max(cells[c], v) : Math.min(cells[c], v);
      }
    }
    String inner = "(" + as(random, x, 0) + "," + gap(random);
    if (kind == 3) return new Part("at" + inner + dx + gap(random) + "," + gap(random) + dy + ")", 4, cells);
    return new Part((kind == 0 ? "sum" : kind == 1 ? "top" : "low") + gap(random) + inner + k + gap(random) + ")", 4, cells);
  }

  /** What a formula has open: 'e' the text, '(' brackets, '1' '2' 'k' 'd' calls, 't' behind ?, 'n' behind :. */
  private static final class Open {
    final char kind;
    final int depth;
    boolean compared;

    Open(char kind, int depth) {
      this.kind = kind;
      this.depth = depth;
    }
  }

  /** Reads a formula without calling itself: the open parts stand in a row. */
  static int fault(String text, int known) {
    List<Open> open = new ArrayList<>();
    open.add(new Open('e', 1));
    boolean operand = true;
    boolean raster = false;
    int minuses = 0;
    int i = 0;
    while (true) {
      while (i < text.length() && (text.charAt(i) == ' ' || text.charAt(i) == '\n')) i++;
      int c = i < text.length() ? text.charAt(i) : -1;
      Open top = open.get(open.size() - 1);
      if (operand) {
        int depth = top.depth + minuses;
        if (c == '-' || c == '(') {
          if (depth >= 40) return i;
          if (c == '-') {
            minuses++;
          } else {
            open.add(new Open('(', depth + 1));
            minuses = 0;
          }
          i++;
        } else if (c >= '0' && c <= '9') {
          int start = i;
          while (i < text.length() && Character.isDigit(text.charAt(i))) {
            if (i - start == 9) return i;
            i++;
          }
          operand = false;
          minuses = 0;
        } else if (c >= 'a' && c <= 'z') {
          int start = i;
          while (i < text.length() && text.charAt(i) >= 'a' && text.charAt(i) <= 'z') i++;
          String word = text.substring(start, i);
          if (word.length() == 1 && c <= 'j') {
            if (c - 'a' >= known) return start;
            raster = true;
            operand = false;
          } else {
            int name = List.of("min", "max", "or", "abs", "blank", "sum", "top", "low", "at").indexOf(word);
            while (i < text.length() && (text.charAt(i) == ' ' || text.charAt(i) == '\n')) i++;
            if (name < 0 || i >= text.length() || text.charAt(i) != '(') return start;
            if (depth >= 40) return i;
            i++;
            open.add(new Open(name <= 2 ? '2' : name <= 4 ? '1' : name <= 7 ? 'k' : 'd', depth + 1));
          }
          minuses = 0;
        } else {
          return i;
        }
        continue;
      }
      if (c >= 0 && "+-*/%".indexOf(c) >= 0) {
        operand = true;
        i++;
        continue;
      }
      if (c >= 0 && "<>=#".indexOf(c) >= 0) {
        if (top.compared) return i;
        top.compared = true;
        operand = true;
        i++;
        int j = i;
        while (j < text.length() && (text.charAt(j) == ' ' || text.charAt(j) == '\n')) j++;
        if ((c == '<' || c == '>') && j < text.length() && text.charAt(j) == '=') i = j + 1;
        continue;
      }
      if (c == '?') {
        if (top.depth >= 40) return i;
        open.add(new Open('t', top.depth + 1));
        operand = true;
        i++;
        continue;
      }
      while (top.kind == 'n') {
        open.remove(open.size() - 1);
        top = open.get(open.size() - 1);
      }
      if (c < 0) return top.kind == 'e' && raster ? -1 : text.length();
      if (c == ':' && top.kind == 't') {
        open.set(open.size() - 1, new Open('n', top.depth));
        operand = true;
      } else if (c == ',' && top.kind == '2') {
        open.set(open.size() - 1, new Open('1', top.depth));
        operand = true;
      } else if (c == ',' && (top.kind == 'k' || top.kind == 'd')) {
        int numbers = top.kind == 'k' ? 1 : 2;
        int bound = top.kind == 'k' ? 3 : 50;
        for (int n = 0; n < numbers; n++) {
          if (i >= text.length() || text.charAt(i) != ',') return i;
          i++;
          while (i < text.length() && (text.charAt(i) == ' ' || text.charAt(i) == '\n')) i++;
          int start = i;
          if (i < text.length() && text.charAt(i) == '-' && top.kind == 'd') i++;
          int first = i;
          while (i < text.length() && Character.isDigit(text.charAt(i))) {
            if (i - first == 9) return i;
            i++;
          }
          if (i == first) return i;
          if (Integer.parseInt(text.substring(first, i)) > bound) return start;
          while (i < text.length() && (text.charAt(i) == ' ' || text.charAt(i) == '\n')) i++;
        }
        if (i >= text.length() || text.charAt(i) != ')') return i;
        open.remove(open.size() - 1);
      } else if (c == ')' && (top.kind == '(' || top.kind == '1')) {
        open.remove(open.size() - 1);
      } else {
        return i;
      }
      i++;
    }
  }

  private static void spread(LandMap map, List<Integer[]> known, Random random) {
    int c = random.nextInt(known.size());
    int s = random.nextInt(known.size());
    long[] best = new long[CELLS];
    for (int i = 0; i < CELLS; i++) {
      boolean seed = known.get(s)[i] != null && isFree(known.get(c)[i]);
      best[i] = seed ? 0 : 3000000000L;
    }
    for (int n = 0; n < CELLS; n++) {
      for (int i = 0; i < CELLS; i++) {
        for (int j = 0; j < CELLS; j++) {
          int dx = Math.abs(i % 5 - j % 5);
          int dy = Math.abs(i / 5 - j / 5);
          if (i == j || dx > 1 || dy > 1 || !isFree(known.get(c)[i]) || !isFree(known.get(c)[j])) continue;
          if (best[i] == 3000000000L) continue;
          long step = (long) (known.get(c)[i] + known.get(c)[j]) * (dx + dy == 2 ? 7 : 5);
          best[j] = Math.min(best[j], best[i] + step);
        }
      }
    }
    int r = map.spread(c, s);
    Feeder.due("spread", r, known.size());
    for (int i = 0; i < CELLS; i++) Feeder.due("spread cell " + i, map.cell(r, i % 5, i / 5), best[i]);
  }

  private static boolean isFree(Integer cost) {
    return cost != null && cost >= 0 && cost <= 1000;
  }

  private static LandMap withRaster() {
    LandMap map = new LandMap();
    Feeder.read(map, 0, "5:A(0 0,9 0,9 9,0 9,0 0)");
    map.lay(0, -1);
    map.corner(1, 1);
    map.raster(1, 3, 2);
    return map;
  }

  private static void checkText(String text, int known) {
    LandMap map = withRaster();
    int fault = fault(text, known);
    Feeder.due("algebra " + text, Feeder.algebra(map, text), fault >= 0 ? -1 : 1);
    Feeder.due("place in " + text, map.place(), fault);
  }

  private static void depths() {
    for (int n = 36; n <= 42; n++) {
      checkText("(".repeat(n) + "a" + ")".repeat(n), 1);
      checkText("-".repeat(n) + "a", 1);
      checkText("abs(".repeat(n) + "a" + ")".repeat(n), 1);
      checkText("min(a,".repeat(n) + "a" + ")".repeat(n), 1);
      checkText("a?1:".repeat(n) + "a", 1);
      checkText("a?".repeat(n) + "a" + ":a".repeat(n), 1);
      checkText("1+2*max(a,".repeat(n) + "a" + ")".repeat(n), 1);
      checkText("1<1+2*max(a,".repeat(n) + "a" + ")".repeat(n), 1);
      checkText("sum(".repeat(n) + "a" + ",1)".repeat(n), 1);
      checkText("a" + "-a".repeat(n), 1);
    }
    LandMap map = withRaster();
    Feeder.due("39 brackets", Feeder.algebra(map, "(".repeat(39) + "a" + ")".repeat(39)), 1);
    Feeder.due("40 brackets", Feeder.algebra(map, "(".repeat(40) + "a" + ")".repeat(40)), -1);
    Feeder.due("40 brackets", map.place(), 39);
    Feeder.due("39 minuses", Feeder.algebra(map, "-".repeat(39) + "a"), 2);
    Feeder.due("39 minuses", map.cell(2, 0, 0), -5);
  }

  private static void sizes() {
    LandMap map = withRaster();
    map.raster(1, 2, 3);
    Feeder.due("another size", Feeder.algebra(map, " a + b"), -1);
    Feeder.due("another size", map.place(), 5);
    Feeder.due("first size", Feeder.algebra(map, "b+b"), 2);
    Feeder.due("first size", map.rasterSize(2, 0), 2);
    Feeder.due("spread over another size", map.spread(0, 1), -1);
    Feeder.due("spread over none", map.spread(0, 3), -14);
    Feeder.due("empty text", Feeder.algebra(map, ""), -1);
    Feeder.due("empty text", map.place(), 0);
    Feeder.due("no raster", Feeder.algebra(map, "1 + 2  "), -1);
    Feeder.due("no raster", map.place(), 7);
    for (int n = 3; n < 40; n++) Feeder.due("raster " + n, Feeder.algebra(map, "a"), n);
    Feeder.due("no room", Feeder.algebra(map, "a"), -12);
    Feeder.due("no room", map.place(), -1);
    Feeder.due("no room", map.spread(0, 0), -12);
    Feeder.due("no room", map.raster(1, 1, 1), -12);
    Feeder.due("fault before no room", Feeder.algebra(map, "a+"), -1);
    Feeder.due("raster 39", map.cell(39, 0, 0), 5);
    Feeder.due("raster 40", map.cell(40, 0, 0), 4000000000L);
  }
}
