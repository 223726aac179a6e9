/** Terms 1 and 2, promises 2 to 7 and 14: bounds of places and numbers, texts byte by byte, the rules in their order. */
public final class TextBoundsTest {
  private static final int MOST = Integer.MAX_VALUE;
  private static final int LEAST = Integer.MIN_VALUE;
  private static final String SQUARE = "A(0 0,8 0,8 8,0 8,0 0)";

  public static void main(String[] args) {
    places();
    lengths();
    digits();
    tooGreat();
    endsTooEarly();
    wrongBytes();
    everyByte();
    blanks();
    manyPlaces();
    ruleOne();
    ruleTwo();
    ruleThree();
    ruleFour();
    ruleFive();
    ruleSix();
    rulesInOrder();
    movesAndRules();
    whatTells();
    tray();
    bytesInAll();
    Feeder.finish("TextBoundsTest");
  }

  private static void fault(String text, int place) {
    LandMap map = new LandMap();
    String name = "fault in " + text.replace('\n', '~');
    Feeder.due(name, Feeder.read(map, 0, text), -1);
    Feeder.due(name + ", its place", map.place(), place);
    Feeder.due(name + ", no rule", map.rule(), 0);
    Feeder.due(name + ", no feature came", map.size(0, 0), 0);
    Feeder.due(name + ", no state was made", map.undo(), -3);
  }

  private static LandMap fine(String text, int features) {
    LandMap map = new LandMap();
    Feeder.due("no fault in " + text.replace('\n', '~'), Feeder.read(map, 0, text), features);
    Feeder.due("place", map.place(), -1);
    Feeder.due("rule", map.rule(), 0);
    Feeder.due("broken", map.broken(), -1);
    return map;
  }

  private static void rule(String text, int rule) {
    rule(text, rule, 0);
  }

  private static void rule(String text, int rule, int feature) {
    LandMap map = new LandMap();
    int came = Feeder.read(map, 0, text);
    Feeder.due("read " + text, rule == 0 ? came > 0 : came == -2, true);
    Feeder.due("rule of " + text, map.rule(), rule);
    Feeder.due("broken of " + text, map.broken(), rule == 0 ? -1 : feature);
    Feeder.due("place of " + text, map.place(), -1);
    if (rule > 0) Feeder.due("none came", map.size(0, 0), 0);
  }

  private static void places() {
    int[][] within = {{500000, 0}, {-500000, 0}, {0, 500000}, {0, -500000}, {500000, 500000}, {-500000, -500000}};
    int[][] beyond = {{500001, 0}, {-500001, 0}, {0, 500001}, {0, -500001}, {MOST, 0}, {LEAST, 0}, {0, MOST}, {0, LEAST}};
    for (int[] p : within) {
      LandMap map = fine("P(" + p[0] + " " + p[1] + ")", 1);
      Feeder.due("x", map.at(0, 0, 0, 0, 0), p[0]);
      Feeder.due("y", map.at(0, 0, 0, 0, 1), p[1]);
      Feeder.due("spot", map.spot(p[0], p[1]), 1);
      Feeder.due("corner", map.corner(p[0], p[1]), true);
      Feeder.due("move", map.move(0, 0, 0, 0), 0);
      map.lay(0, -1);
      Feeder.due("locate", map.locate(p[0], p[1]), 0);
    }
    for (int[] p : beyond) {
      LandMap map = new LandMap();
      Feeder.due("spot beyond", map.spot(p[0], p[1]), -1);
      Feeder.due("it was not collected", map.spot(0, 0), 1);
      Feeder.due("corner beyond", map.corner(p[0], p[1]), false);
      if (Math.abs((long) p[0]) > 500001 || Math.abs((long) p[1]) > 500001) continue;
      fault("P(" + p[0] + " " + p[1] + ")", p[0] != 0 ? 2 : 4);
    }
    fault("P(0-500001)", 3);
    fault("P(000500001 0)", 2);
    fine("P(000500000-000500000)", 1);
    // The lesser place has the lesser x, of equal ones the lesser y.
    LandMap map = fine("P(3-1)P(-2 9)P(3-2)P(-500000 500000)P(-2 8)", 5);
    map.lay(0, -1);
    int[] ys = {500000, 8, 9, -2, -1};
    for (int n = 0; n < 5; n++) Feeder.due("y of node " + n, map.node(n, 1), ys[n]);
  }

  private static void lengths() {
    int[][] due = {{0, 1, 1}, {1, 1, 1}, {3, 4, 5}, {2, 2, 2}, {4, 8, 8}, {9, 0, 9}, {1, 9, 9}, {5, 12, 13}};
    for (int[] d : due) {
      LandMap map = fine("L(0 0," + d[0] + " " + d[1] + ")", 1);
      Feeder.due("LENGTH of " + d[0] + " " + d[1], map.length(0, 0), d[2]);
    }
    LandMap map = fine("L(-500000 0,500000 1)L(-500000 0,499999 1414)L(-500000 0,499999 1415)"
        + "L(-500000-500000,500000 500000)", 4);
    Feeder.due("just above a square", map.length(0, 0), 1000000);
    Feeder.due("just below a square", map.length(0, 1), 999999);
    Feeder.due("above it", map.length(0, 2), 1000000);
    Feeder.due("the longest", map.length(0, 3), 1414213);
    LandMap far = fine("L(-500000-500000" + ",500000 500000,-500000-500000".repeat(500) + ")", 1);
    Feeder.due("each edge for itself", far.length(0, 0), 1000L * 1414213);
    LandMap wide = fine("A(-500000-500000,-500000 500000,500000 500000,500000-500000,-500000-500000)"
        + "(-499999-499999,-499999 499999,499999 499999,499999-499999,-499999-499999)", 1);
    Feeder.due("a rim of the widest", wide.area2(0, 0), 2 * (1000000000000L - 999998L * 999998L));
  }

  private static void digits() {
    LandMap map = fine("999999999:P(1 2)-999999999:P(1 2)000000000:P(1 2)-0:P(1 2)P(1 2)", 5);
    int[] values = {999999999, -999999999, 0, 0, 0};
    for (int f = 0; f < 5; f++) Feeder.due("value of " + f, map.feature(0, f, 1), values[f]);
    LandMap zeros = fine("P(-000000007 000000008)P(-0-0)", 2);
    Feeder.due("x", zeros.at(0, 0, 0, 0, 0), -7);
    Feeder.due("y", zeros.at(0, 0, 0, 0, 1), 8);
    Feeder.due("-0", zeros.at(0, 1, 0, 0, 0), 0);
    fault("1000000000:P(1 2)", 9);
    fault("0000000000:P(1 2)", 9);
    fault("-0000000001:P(1 2)", 10);
    fault(" 12345678901234567890:P(1 2)", 10);
    fault("P(0000000001 2)", 11);
    fault("P(9999999999 2)", 11);
    fault("P(-9999999999 2)", 12);
    fault("P(1 0000000002)", 13);
    fault("P(1 9999999999", 13);
    fault("P(1-9999999999)", 13);
    fault(":P(1 2)", 0);
    fault("-:P(1 2)", 1);
    fault("--5:P(1 2)", 1);
    fault("+5:P(1 2)", 0);
    fault("P(1--2)", 4);
    fault("P(1-)", 4);
    fault("P(- 1 2)", 3);
    fault("P(1 - 2)", 5);
    fault("1 2:P(1 2)", 2);
    fault("P(12)", 4);
    fault("P(1 2 3)", 6);
    fault("P(1 2-3)", 5);
  }

  private static void tooGreat() {
    fault("P(500001 2)", 2);
    fault("P(999999999 2)", 2);
    fault("P(-999999999 2)", 2);
    fault("P(2 999999999)", 4);
    fault("P(2 \n-999999999)", 5);
    fault("P(500001", 2);
    fault("P(500001x", 2);
    fault("P(500001,", 2);
    fault("P(1-500001", 3);
    fault("L(1 2,3 4,5 600000)x", 12);
    fault("P(1 2)P(700000 700000)", 8);
    // A value's only bound are its nine digits.
    LandMap map = fine("500001:P(1 2)", 1);
    Feeder.due("value", map.feature(0, 0, 1), 500001);
  }

  private static void endsTooEarly() {
    String text = "-12 : A ( 0 0 , 4 0 , 4-4 , 0-4 , 0 0 )(1-1,2-1,2-2,1-1)\n7:P(-5 5)L(1 2,3 4,5 6)(7 8,9 10)";
    for (int n = 0; n < text.length(); n++) {
      String part = text.substring(0, n);
      if (part.endsWith(")") || part.endsWith(")\n")) fine(part, part.split("[APL]", -1).length - 1);
      else fault(part, n);
    }
    fine(text, 3);
    fine(text + " \n ", 3);
    fault("", 0);
    fault(" ", 1);
    fault("\n \n", 3);
    fault("P(1 2)5", 7);
    fault("P(1 2) 5: ", 10);
    fault("P ( 1 2 ", 8);
  }

  private static void wrongBytes() {
    String text = "-12 : A ( 0 0 , 4 0 , 4-4 , 0-4 , 0 0 )(1-1,2-1,2-2,1-1)\n7:P(-5 5)L(1 2,3 4,5 6)(7 8,9 10)";
    for (int n = 0; n < text.length(); n++) {
      fault(text.substring(0, n) + "x" + text.substring(n + 1), n);
      fault(text.substring(0, n) + "\u0000" + text.substring(n), n);
    }
  }

  /** Behind a beginning each byte goes on, makes a whole text, or is the fault. */
  private static void next(String begin, String goesOn, String whole) {
    for (int c = 0; c < 256; c++) {
      LandMap map = new LandMap();
      String text = begin + (char) c;
      int came = Feeder.read(map, 0, text);
      String name = "byte " + c + " behind " + begin;
      if (whole.indexOf(c) >= 0) {
        Feeder.due(name, came > 0, true);
        Feeder.due(name + ", place", map.place(), -1);
      } else {
        Feeder.due(name, came, -1);
        Feeder.due(name + ", place", map.place(), goesOn.indexOf(c) >= 0 ? text.length() : begin.length());
      }
    }
  }

  private static void everyByte() {
    String digits = "0123456789";
    String blanks = " \n";
    next("", digits + blanks + "-PLA", "");
    next("-", digits, "");
    next("5", digits + blanks + ":", "");
    next("123456789", blanks + ":", "");
    next("5 ", blanks + ":", "");
    next("5:", blanks + "PLA", "");
    next("P", blanks + "(", "");
    next("L ", blanks + "(", "");
    next("P(", digits + blanks + "-", "");
    next("P(-", digits, "");
    next("P(1", digits + blanks + "-", "");
    next("P(1 ", digits + blanks + "-", "");
    next("P(1 -", digits, "");
    next("P(1 2", digits + blanks, ")");
    next("P(1 2 ", blanks, ")");
    next("P(1 2)", digits + "-PLA", blanks);
    next("L(1 2", digits + blanks + ",", "");
    next("L(1 2,", digits + blanks + "-", "");
    next("L(1 2,3 4", digits + blanks + ",", ")");
    next("L(1 2,3 4)", digits + "-PLA(", blanks);
    next("A(0 0,1 0,0 1,0 0)", digits + "-PLA(", blanks);
    next("L(1 2,3 4)(", digits + blanks + "-", "");
  }

  private static void blanks() {
    LandMap map = fine(" \n 5\n:\n A\n(\n0\n0\n,\n9 \n 0,0 9 , 0 0 ) ( 1 1,2 1,1 2,1 1 )\n", 1);
    Feeder.due("value", map.feature(0, 0, 1), 5);
    Feeder.due("rows", map.feature(0, 0, 2), 2);
    LandMap bare = fine("5:A(0 0,9 0,0 9,0 0)(1 1,2 1,1 2,1 1)", 1);
    Feeder.due("without blanks", bare.feature(0, 0, 3), 8);
    fault("P(1\t2)", 3);
    fault("P(1\r2)", 3);
    fault("P(1\u00002)", 3);
    fault("P(1\u00a02)", 3);
    fault("1 0:P(0 0)", 2);
    fault("P(1 0 0)", 6);
  }

  private static String zigzag(int places) {
    StringBuilder out = new StringBuilder();
    for (int i = 0; i < places; i++) out.append(i == 0 ? "" : ",").append(i % 2).append(" 0");
    return out.toString();
  }

  private static void manyPlaces() {
    LandMap map = fine("L(" + zigzag(2000) + ")P(9 9)", 2);
    Feeder.due("2000 places", map.feature(0, 0, 3), 2000);
    Feeder.due("the last", map.at(0, 0, 0, 1999, 0), 1);
    Feeder.due("none behind it", map.at(0, 0, 0, 2000, 0), 1000000);
    Feeder.due("its length", map.length(0, 0), 1999);
    LandMap rows = fine("L(" + zigzag(1000) + ")(" + zigzag(1000) + ")L(" + zigzag(1500) + ")", 2);
    Feeder.due("2000 in two rows", rows.feature(0, 0, 3), 2000);
    Feeder.due("1500 in the next feature", rows.feature(0, 1, 3), 1500);
    String full = "L(" + zigzag(2000);
    fault(full + ",0 0)", full.length() + 1);
    fault(full + " , \n 0 0)", full.length() + 5);
    fault(full + ",-500001 0)", full.length() + 1);
    fault(full + ",x", full.length() + 1);
    fault(full + ",", full.length() + 1);
    fault(full, full.length());
    fault(full + ")(", full.length() + 2);
    fault(full + ")(0 0,1 1)", full.length() + 2);
    String split = "L(" + zigzag(1000) + ")(" + zigzag(999) + ")(0 0,";
    fault(split + "1 1)", split.length());
    fine("L(" + zigzag(1000) + ")(" + zigzag(998) + ")(0 0,1 1)", 1);
    String later = "P(1 1)L(" + zigzag(2000) + ",";
    fault(later + "0 0)", later.length());
  }

  private static void ruleOne() {
    rule("A(0 0,4 0)", 1);
    rule("A(0 0,4 0,0 0)", 1);
    rule("A(0 0,4 0,0 4)", 1);
    rule("A(0 0,4 0,0 4,0 0)", 0);
    rule("A(0 0,4 0,0 4,0 1)", 1);
    rule("A(0 0,4 0,0 4,1 0)", 1);
    rule("A(0 0,4 0,4 4,0 4,0 -1)", 1);
    rule(SQUARE + "(1 1,2 1,1 1)", 1);
    rule(SQUARE + "(1 1,2 1,1 2,2 2)", 1);
    rule(SQUARE + "(1 1,2 1,1 2,1 1)(4 4,5 4)", 1);
    // Lines need neither four places nor an end where they begin.
    rule("L(0 0,4 0)", 0);
    rule("L(0 0,4 0,0 0)", 0);
    rule("L(0 0,4 0,0 4,0 0)", 0);
  }

  private static void ruleTwo() {
    rule("L(0 0,0 0)", 2);
    rule("L(0 0,1 1,1 1)", 2);
    rule("L(0 0,1 1)(2 2,2 2)", 2);
    rule("L(0 0,1 1)(1 1,2 2)", 0);
    rule("L(0 0,1 1,0 0,1 1)", 0);
    rule("L(0 0,0 1)", 0);
    rule("L(0 0,1 0)", 0);
    rule("P(0 0)P(0 0)", 0);
    rule("A(0 0,0 0,4 0,0 4,0 0)", 2);
    rule("A(0 0,4 0,0 4,0 0,0 0)", 2);
    rule("A(0 0,4 0,4 0,0 4,0 0)", 2);
    rule(SQUARE + "(1 1,2 1,1 2,1 2,1 1)", 2);
  }

  private static void ruleThree() {
    rule("A(0 0,4 0,2 0,0 0)", 3);
    rule("A(0 0,2 0,4 0,0 0)", 3);
    rule("A(1 0,4 0,0 0,1 0)", 3);
    rule("A(0 0,4 4,4 0,0 4,0 0)", 3);
    rule("A(0 0,8 0,8 8,4 0,0 8,0 0)", 3);
    rule("A(0 0,8 0,8 8,4 1,0 8,0 0)", 0);
    rule("A(0 0,4 0,4 4,8 4,8 8,4 8,4 4,0 4,0 0)", 3);
    rule("A(0 0,8 0,8 8,4 8,4 0,0 8,0 0)", 3);
    rule("A(0 0,8 0,8 8,8 -2,0 0)", 3);
    rule("A(0 0,8 0,8 8,3 0,0 0)", 3);
    rule("A(4 0,8 0,8 8,0 8,0 0,6 0,4 0)", 3);
    // Edges that follow one another may go straight on, the last and the first too.
    rule("A(0 0,4 0,8 0,8 8,0 0)", 0);
    rule("A(4 0,8 0,8 8,0 0,4 0)", 0);
    rule("A(0 0,500000 0,500000 1,0 1,0 0)", 0);
    rule(SQUARE + "(1 1,3 3,3 1,1 3,1 1)", 3);
    rule(SQUARE + "(1 1,3 1,2 1,1 1)", 3);
    // A line may cross itself.
    rule("L(0 0,4 4,4 0,0 4)", 0);
    rule("L(0 0,4 0,2 0)", 0);
  }

  private static void ruleFour() {
    rule(SQUARE + "(2 2,9 2,9 4,2 2)", 4);
    rule(SQUARE + "(2 2,8 2,7 4,2 2)", 0);
    rule(SQUARE + "(2 2,8 8,2 7,2 2)", 0);
    rule(SQUARE + "(8 2,8 4,6 3,8 2)", 4);
    rule(SQUARE + "(8 2,8 12,6 3,8 2)", 4);
    rule(SQUARE + "(0 0,8 0,4 4,0 0)", 4);
    rule(SQUARE + SQUARE.substring(1), 4);
    rule(SQUARE + "(1 1,4 1,4 4,1 1)(2 1,6 1,6 3,2 1)", 4);
    rule(SQUARE + "(1 1,4 1,4 4,1 4,1 1)(3 3,6 3,6 6,3 3)", 4);
    rule(SQUARE + "(1 1,4 1,4 4,1 4,1 1)(4 2,6 3,6 6,4 2)", 0);
    rule(SQUARE + "(1 1,4 1,4 4,1 4,1 1)(4 4,6 5,6 6,4 4)", 0);
    rule(SQUARE + "(1 1,4 1,4 4,1 4,1 1)(4 4,4 6,6 6,4 4)", 0);
    rule(SQUARE + "(1 1,4 1,4 4,1 4,1 1)(4 3,4 6,6 6,4 3)", 4);
  }

  private static void ruleFive() {
    String notch = "A(0 0,8 0,8 8,4 4,0 8,0 0)";
    rule(notch + "(4 4,3 2,5 2,4 4)", 0);
    rule(notch + "(4 4,3 7,5 7,4 4)", 5);
    rule(SQUARE + "(20 20,21 20,21 21,20 20)", 5);
    rule(SQUARE + "(8 4,12 2,12 6,8 4)", 5);
    rule(SQUARE + "(-1 -1,9 -1,9 9,-1 9,-1 -1)", 5);
    rule(SQUARE + "(1 1,7 1,7 7,1 7,1 1)(2 2,3 2,3 3,2 2)", 5);
    rule(SQUARE + "(2 2,3 2,3 3,2 2)(1 1,7 1,7 7,1 7,1 1)", 5);
    rule(SQUARE + "(1 1,7 1,7 7,1 7,1 1)(1 1,3 2,2 3,1 1)", 5);
    // Both rings go through the corners of the other one: no edges cross.
    rule("A(4 0,8 4,4 8,0 4,4 0)(4 0,4 8,12 4,4 0)", 5);
    rule("A(0 0,4 2,8 0,8 8,0 8,0 0)(2 4,4 2,6 4,4 6,2 4)", 0);
    rule("A(0 0,4 2,8 0,8 8,0 8,0 0)(4 2,3 0,5 0,4 2)", 5);
    // Three corners of the first ring on one edge of the hole, between two of them it lies outside.
    String rest = ",4 25,-5 25,-5 -5,25 -5,25 25,17 25,16 10,15 25,6 25,";
    String hole = "(0 10,20 10,10 0,0 10)";
    rule("A(5 7,4 10" + rest + "6 10,5 7)" + hole, 5);
    rule("A(5 12,4 13" + rest + "6 13,5 12)" + hole, 0);
    rule("A(5 12,4 13" + rest + "6 10,5 12)" + hole, 6);
  }

  private static void ruleSix() {
    rule(SQUARE + "(0 4,4 2,4 6,0 4)", 0);
    rule(SQUARE + "(0 4,4 2,8 4,4 6,0 4)", 6);
    rule(SQUARE + "(0 0,4 2,4 4,0 0)", 0);
    rule(SQUARE + "(0 0,4 2,8 8,2 4,0 0)", 6);
    rule(SQUARE + "(0 4,2 2,2 4,0 4)(2 4,4 2,4 4,2 4)(4 4,7 4,6 6,4 4)", 0);
    rule(SQUARE + "(0 4,2 2,2 4,0 4)(2 4,4 2,4 4,2 4)(4 4,8 4,6 6,4 4)", 6);
    // Three holes in a ring shut off what is between them; two that meet twice too.
    rule("A(0 0,20 0,20 20,0 20,0 0)(4 4,10 2,16 4,10 3,4 4)(16 4,11 12,10 16,16 4)(10 16,9 12,4 4,10 16)", 6);
    rule("A(0 0,20 0,20 20,0 20,0 0)(4 4,10 2,16 4,10 3,4 4)(16 4,11 12,10 16,16 4)(10 15,9 12,4 4,10 15)", 0);
    rule("A(0 0,20 0,20 20,0 20,0 0)(4 4,10 2,16 4,10 3,4 4)(4 4,10 8,16 4,10 9,4 4)", 6);
  }

  /** Two rings that break two rules, in either order: the lesser rule is told. */
  private static void rulesInOrder() {
    String[] rings = {null, "(1 1,2 1,1 1)", "(1 1,1 1,2 1,2 2,1 1)", "(1 1,3 3,3 1,1 3,1 1)", "(6 6,9 6,9 7,6 6)",
        "(20 20,21 20,21 21,20 20)", "(0 4,4 0,8 4,4 3,0 4)"};
    for (int i = 1; i <= 6; i++) {
      rule(SQUARE + rings[i], i);
      for (int j = 1; j <= 6; j++) {
        if (i != j) rule(SQUARE + rings[i] + rings[j], Math.min(i, j));
        // Of two features the first one is told, whichever rule it breaks.
        rule("P(0 0)" + SQUARE + SQUARE + rings[i] + "L(0 0,1 1)" + SQUARE + rings[j], i, 2);
      }
    }
    rule("L(0 0,0 0)A(0 0,1 0,0 0)", 2, 0);
    rule("A(0 0,1 0,0 0)L(0 0,0 0)", 1, 0);
    fault("A(0 0,1 0,0 0)L(0 0,0 0)x", 24);
  }

  private static void moved(LandMap map, int row, int k, int x, int y, int rule) {
    String name = "move of place " + k + " of row " + row + " to " + x + " " + y;
    int formerX = map.at(0, 0, row, k, 0);
    int formerY = map.at(0, 0, row, k, 1);
    Feeder.due(name, Feeder.move(map, 0, 0, row, k, x, y), rule == 0 ? 0 : -2);
    Feeder.due(name + ", rule", map.rule(), rule);
    Feeder.due(name + ", broken", map.broken(), rule == 0 ? -1 : 0);
    Feeder.due(name + ", x", map.at(0, 0, row, k, 0), rule == 0 ? x : formerX);
    Feeder.due(name + ", y", map.at(0, 0, row, k, 1), rule == 0 ? y : formerY);
  }

  private static void movesAndRules() {
    LandMap map = fine(SQUARE + "(2 2,3 2,2 3,2 2)(5 5,6 5,5 6,5 5)", 1);
    moved(map, 0, 1, 0, 0, 2);
    moved(map, 0, 2, 4, 0, 3);
    moved(map, 1, 1, 9, 2, 4);
    moved(map, 1, 1, 6, 6, 4);
    moved(map, 0, 0, 4, 4, 5);
    moved(map, 1, 0, 0, 2, 0);
    Feeder.due("the last of the ring too", map.at(0, 0, 1, 3, 0), 0);
    moved(map, 1, 1, 8, 2, 6);
    moved(map, 1, 3, 2, 2, 0);
    Feeder.due("the first of the ring too", map.at(0, 0, 1, 0, 0), 2);
    moved(map, 0, 4, -4, -4, 0);
    Feeder.due("the first too", map.at(0, 0, 0, 0, 1), -4);
    Feeder.due("the middle stays", map.at(0, 0, 0, 1, 0), 8);
    LandMap notch = fine("A(0 0,8 0,8 8,4 4,0 8,0 0)(4 4,3 2,5 2,4 4)", 1);
    moved(notch, 1, 1, 4, 0, 6);
    LandMap hole = fine("A(0 0,8 0,8 8,4 6,0 8,0 0)(4 6,3 2,5 3,4 6)", 1);
    moved(hole, 0, 3, 4, 2, 4);
    LandMap line = fine("L(0 0,4 0,0 0)", 1);
    moved(line, 0, 0, 4, 0, 2);
    moved(line, 0, 0, 1, 0, 0);
    Feeder.due("a line's other end stays", line.at(0, 0, 0, 2, 0), 0);
    moved(line, 0, 1, 1, 0, 2);
    moved(line, 0, 2, 1, 0, 0);
    LandMap point = fine("P(3 3)", 1);
    moved(point, 0, 0, 3, 3, 0);
    Feeder.due("to where it is: a change too", point.undo(), 1);
  }

  private static void whatTells() {
    LandMap map = new LandMap();
    Feeder.due("place at first", map.place(), -1);
    Feeder.due("rule at first", map.rule(), 0);
    Feeder.due("broken at first", map.broken(), -1);
    Feeder.read(map, 0, SQUARE);
    Feeder.read(map, 0, "P(1 x");
    map.lay(0, -1);
    map.raster(1, 2, 2);
    map.undo();
    Feeder.move(map, 0, 0, 0, 0, 1, 1);
    Feeder.due("other calls leave the place", map.place(), 4);
    Feeder.due("move() tells of no fault", map.rule(), 0);
    Feeder.due("a fine read()", Feeder.read(map, 0, SQUARE + "L(1 1,1 1)"), -2);
    Feeder.due("no place", map.place(), -1);
    map.lay(0, -1);
    map.drop(0, 0);
    map.route();
    Feeder.due("algebra", Feeder.algebra(map, "a+"), -1);
    Feeder.due("other calls leave the rule", map.rule(), 2);
    Feeder.due("and the feature", map.broken(), 1);
    Feeder.due("of algebra()", map.place(), 2);
    Feeder.due("algebra", Feeder.algebra(map, "a"), 1);
    Feeder.due("none", map.place(), -1);
    Feeder.due("a fault", Feeder.read(map, 0, "L(1 1,1 1)x"), -1);
    Feeder.due("no rule", map.rule(), 0);
    Feeder.due("no feature", map.broken(), -1);
    Feeder.due("no layer", Feeder.read(map, 12, "L(1 1,1 1)"), -14);
    Feeder.due("no place", map.place(), -1);
    Feeder.due("no rule", map.rule(), 0);
    Feeder.read(map, 1, "L(0 0,1 1)");
    Feeder.due("broken", Feeder.move(map, 1, 0, 0, 0, 1, 1), -2);
    Feeder.due("rule", map.rule(), 2);
    Feeder.due("another number of spots", map.move(1, 0, 0, 0), -14);
    Feeder.due("the latest move() found none", map.rule(), 0);
    Feeder.due("nor a feature", map.broken(), -1);
  }

  private static void tray() {
    LandMap map = new LandMap();
    Feeder.due("an empty tray", map.end(0), true);
    Feeder.due("nothing in it", map.end(1), false);
    int[] wrong = {-1, 21, LEAST, MOST};
    Feeder.due("feed", map.feed(0x50283132, 0x20333429, 0x51525354, 0, 0), 20);
    for (int n : wrong) Feeder.due("end " + n, map.end(n), false);
    Feeder.due("all of it", map.end(20), true);
    Feeder.due("the first eight", map.end(8), true);
    Feeder.due("nine it has no more", map.end(9), false);
    Feeder.due("read", map.read(0), 1);
    Feeder.due("the highest byte first", map.at(0, 0, 0, 0, 0), 12);
    Feeder.due("then the next int", map.at(0, 0, 0, 0, 1), 34);
    Feeder.due("used up", map.end(1), false);
    Feeder.due("five ints", map.feed(0x4C283120, 0x322C3320, 0x342C2020, 0x20202035, 0x2D362920), 20);
    Feeder.due("read", map.read(0), 1);
    Feeder.due("the last int", map.at(0, 1, 0, 2, 1), -6);
    Feeder.due("feed", map.feed(0x61000000, 0, 0, 0, 0), 20);
    Feeder.due("algebra", map.algebra(), -1);
    Feeder.due("used up by algebra too", map.end(1), false);
    Feeder.due("feed", map.feed(0x61000000, 0, 0, 0, 0), 20);
    Feeder.due("a read without a layer", map.read(-1), -14);
    Feeder.due("used it up too", map.end(1), false);
    Feeder.due("feed", map.feed(0x50283120, 0x32290000, 0, 0, 0), 20);
    Feeder.due("end", map.end(6), true);
    Feeder.due("feed behind it", map.feed(0x20502833, 0x20342920, 0x20202020, 0x20202020, 0x20202020), 26);
    Feeder.due("read both", map.read(1), 2);
    Feeder.due("the first", map.at(1, 0, 0, 0, 0), 1);
    Feeder.due("the second", map.at(1, 1, 0, 0, 0), 3);
  }

  private static void bytesInAll() {
    LandMap map = new LandMap();
    int fed = 0;
    for (int n = 1; n <= 800; n++) Feeder.due("feed", map.feed(0x20202020, 0x20202020, 0x20202020, 0x20202020, 0x20202020), 20 * n);
    fed += 800;
    for (int n = 0; n < 9; n++) Feeder.due("no more than 16000", map.feed(0x78787878, 0, 0, 0, 0), -1);
    Feeder.due("what is in it stays", map.end(16001), false);
    Feeder.due("what is in it stays", map.end(16000), true);
    Feeder.due("read of blanks", map.read(0), -1);
    Feeder.due("at the end", map.place(), 16000);
    for (int round = 0; round < 3; round++) {
      for (int n = 1; n <= 800; n++) Feeder.due("feed", map.feed(0x20202020, 0, 0, 0, 0), 20 * n);
      fed += 800;
      if (round == 0) Feeder.due("all forgotten", map.end(0), true);
      if (round == 1) Feeder.due("all read", map.algebra(), -1);
      if (round == 2) Feeder.due("all read", map.read(12), -14);
    }
    for (int n = 1; fed < 3276; n++, fed++) Feeder.due("feed", map.feed(0x50283120, 0x31292020, 0, 0, 0), 20 * n);
    Feeder.due("no more than 65536 in all", map.feed(0x20202020, 0, 0, 0, 0), -1);
    Feeder.due("what is in it stays", map.end(76 * 20 + 1), false);
    Feeder.due("the first text", map.end(8), true);
    Feeder.due("read", map.read(0), 1);
    Feeder.due("none though the tray is empty", map.feed(0x20202020, 0, 0, 0, 0), -1);
    Feeder.due("undo", map.undo(), 0);
    Feeder.due("undo() gives no bytes back", map.feed(0x20202020, 0, 0, 0, 0), -1);
  }
}
