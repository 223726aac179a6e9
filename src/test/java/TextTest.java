import java.util.ArrayList;
import java.util.List;
import java.util.Random;

/** Promises 2 to 5: texts with blanks anywhere, and the places of faults, held against a machine of states. */
public final class TextTest {
  private static final String BYTES = "PLA(),:-  \n0123456789\t.pB;\u0000\u00ff";

  public static void main(String[] args) {
    int rounds = args.length > 0 ? Integer.parseInt(args[0]) : 20000;
    long seed = args.length > 1 ? Long.parseLong(args[1]) : 1;
    int faults = 0;
    for (int round = 0; round < rounds; round++) {
      Random random = new Random(seed * 104729 + round);
      String text = Feeder.spoil(random, valid(random), BYTES, random.nextInt(3));
      int want = fault(text);
      faults += want >= 0 ? 1 : 0;
      LandMap map = new LandMap();
      int got = Feeder.read(map, 0, text);
      Feeder.due("read " + text, got == -1, want >= 0);
      Feeder.due("place in " + text.replace('\n', '~'), map.place(), want);
      if (want < 0 && got > 0) checkPlaces(map, text, got);
    }
    Feeder.due("texts with faults", faults > rounds / 3 && faults < rounds, true);
    Feeder.finish("TextTest");
  }

  private static String blanks(Random random) {
    StringBuilder out = new StringBuilder();
    while (random.nextInt(4) == 0) out.append(random.nextInt(3) == 0 ? '\n' : ' ');
    return out.toString();
  }

  private static String number(Random random, boolean place) {
    int[] edges = {0, 7, -7, 500000, -500000, 12, 499999};
    int n = edges[random.nextInt(edges.length)];
    if (!place && random.nextInt(4) == 0) n = random.nextInt(1999999999) - 999999999;
    StringBuilder digits = new StringBuilder(Integer.toString(Math.abs(n)));
    while (digits.length() < 9 && random.nextInt(6) == 0) digits.insert(0, '0');
    if (random.nextInt(60) == 0) digits.append(random.nextInt(10));
    if (random.nextInt(60) == 0) digits.append(random.nextInt(1000));
    return (n < 0 || random.nextInt(9) == 0 ? "-" : "") + digits;
  }

  private static String place(Random random) {
    String x = number(random, true);
    String y = number(random, true);
    String gap = blanks(random);
    if (gap.isEmpty() && !y.startsWith("-")) gap = " ";
    return blanks(random) + x + gap + y + blanks(random);
  }

  private static String valid(Random random) {
    StringBuilder out = new StringBuilder(blanks(random));
    int many = 1 + random.nextInt(3);
    for (int f = 0; f < many; f++) {
      if (random.nextBoolean()) {
        out.append(number(random, false)).append(blanks(random)).append(':').append(blanks(random));
      }
      int kind = random.nextInt(3);
      out.append("PLA".charAt(kind));
      int rows = kind == 0 ? 1 : 1 + random.nextInt(2);
      for (int r = 0; r < rows; r++) {
        out.append(blanks(random)).append('(').append(place(random));
        int more = kind == 0 ? 0 : 1 + random.nextInt(3);
        for (int k = 0; k < more; k++) out.append(',').append(place(random));
        out.append(')');
      }
      out.append(blanks(random));
    }
    return out.toString();
  }

  /** Byte by byte: what may come next stands in the state. */
  static int fault(String text) {
    char state = 'f';
    boolean point = false;
    int start = 0;
    int digits = 0;
    int places = 0;
    for (int i = 0; i <= text.length(); i++) {
      int c = i < text.length() ? text.charAt(i) : -1;
      boolean digit = c >= '0' && c <= '9';
      boolean blank = c == 32 || c == 10;
      if ((state == 'x' || state == 'y' || state == 'v') && digits > 0) {
        if (digit) {
          if (++digits > 9 + (text.charAt(start) == '-' ? 1 : 0)) return i;
          continue;
        }
        String number = text.substring(start, i);
        if (number.equals("-")) return i;
        if (state != 'v' && Math.abs(Integer.parseInt(number)) > 500000) return start;
        digits = 0;
        if (state == 'v') state = ':';
        else if (state == 'y') state = ',';
        else if (c == '-' || blank) state = 'Y';
        else return i;
      }
      if (c < 0) return (state == 'f' || state == 'r') && places > 0 ? -1 : text.length();
      if (blank) continue;
      boolean starts = digit || c == '-';
      switch (state) {
        case 'f': case 'r': case 'k':
          if (c == '(' && state == 'r') {
            state = 'X';
          } else if (starts && state != 'k') {
            state = 'v';
            start = i;
            digits = 1;
          } else if (c == 'P' || c == 'L' || c == 'A') {
            point = c == 'P';
            places = 0;
            state = '(';
          } else {
            return i;
          }
          break;
        case ':':
          if (c != ':') return i;
          state = 'k';
          break;
        case '(':
          if (c != '(') return i;
          state = 'X';
          break;
        case 'X': case 'Y':
          if (!starts) return i;
          state = state == 'X' ? 'x' : 'y';
          start = i;
          digits = 1;
          if (state == 'x') places++;
          break;
        default:
          boolean first = state == ',' && text.lastIndexOf('(', i) > text.lastIndexOf(',', i - 1);
          if (c == ')' && (point || !first)) state = point ? 'f' : 'r';
          else if (c == ',' && !point) state = 'X';
          else return i;
      }
    }
    return -2;
  }

  private static void checkPlaces(LandMap map, String text, int features) {
    List<Integer> want = new ArrayList<>();
    List<Integer> got = new ArrayList<>();
    String numbers = text.replaceAll("(-?[0-9]+)[ \n]*:", ":").replace("-", " -").replaceAll("[^-0-9]+", " ").trim();
    for (String n : numbers.split(" ")) want.add(Integer.parseInt(n));
    for (int f = 0; f < features; f++) {
      Feeder.Shape shape = Feeder.shapeOf(map, 0, f);
      for (int[][] row : shape.rows) {
        for (int[] p : row) {
          got.add(p[0]);
          got.add(p[1]);
        }
      }
    }
    Feeder.due("places of " + text + " are " + got, got.equals(want), true);
  }
}
