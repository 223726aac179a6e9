/** Each promise by hand: ordinary inputs, the edges that the document names, wrong inputs. */
public final class PromisesTest {
  private static final int MOST = Integer.MAX_VALUE;
  private static final int LEAST = Integer.MIN_VALUE;
  private static final String SQUARE = "A(0 0,8 0,8 8,0 8,0 0)";

  public static void main(String[] args) {
    promise1();
    promises2and3();
    promises4to7();
    promises8to10();
    promises11and12();
    promises13and14();
    promises15to17();
    promises18to21();
    promises22to24();
    promise25();
    promises26to28();
    promises29to31();
    promises32to37();
    promise38();
    Feeder.finish("PromisesTest");
  }

  private static void promise1() {
    LandMap map = new LandMap();
    for (int layer = 0; layer < 12; layer++) {
      Feeder.due("1: size of " + layer, map.size(layer, 0), 0);
      Feeder.due("1: present in " + layer, map.size(layer, 1), 0);
    }
    Feeder.due("1: nothing laid", map.laid(1), -13);
    Feeder.due("1: place", map.place(), -1);
    Feeder.due("1: rule", map.rule(), 0);
    Feeder.due("1: broken", map.broken(), -1);
    Feeder.due("1: undo", map.undo(), -3);
    Feeder.due("1: routeNode", map.routeNode(0), -1);
    Feeder.due("1: cell", map.cell(0, 0, 0), 4000000000L);
  }

  private static void promises2and3() {
    LandMap map = new LandMap();
    Feeder.due("2: feed", map.feed(0x50283120, 0x32290000, 0, 0, 0), 20);
    Feeder.due("2: feed", map.feed(0, 0, 0, 0, 0), 40);
    Feeder.due("3: end above", map.end(41), false);
    Feeder.due("3: end below", map.end(-1), false);
    Feeder.due("3: end", map.end(6), true);
    Feeder.due("3: cut off", map.end(7), false);
    Feeder.due("2: feed behind the end", map.feed(0x503A0000, 0, 0, 0, 0), 26);
    Feeder.due("3: end", map.end(6), true);
    Feeder.due("4: read", map.read(0), 1);
    Feeder.due("10: x", map.at(0, 0, 0, 0, 0), 1);
    Feeder.due("10: y", map.at(0, 0, 0, 0, 1), 2);
    Feeder.due("3: used up", map.end(1), false);
    Feeder.due("3: end of nothing", map.end(0), true);
    for (int n = 1; n <= 800; n++) Feeder.due("2: feed " + n, map.feed(-1, -1, -1, -1, -1), 20 * n);
    Feeder.due("2: the tray is full", map.feed(0, 0, 0, 0, 0), -1);
    Feeder.due("3: end of a full tray", map.end(16000), true);
    Feeder.due("3: end", map.end(15981), true);
    Feeder.due("2: the tray is nearly full", map.feed(0, 0, 0, 0, 0), -1);
    Feeder.due("3: end", map.end(15980), true);
    Feeder.due("2: the tray has just room", map.feed(0, 0, 0, 0, 0), 16000);
    Feeder.due("4: a byte above 127 is a fault", map.read(0), -1);
    Feeder.due("5: at the first byte", map.place(), 0);
    int fed = 2 + 1 + 801;
    for (int n = fed + 1; n <= 3276; n++) {
      Feeder.due("2: feed " + n, map.feed(0, 0, 0, 0, 0), 20);
      map.end(0);
    }
    Feeder.due("2: no more than 65536 in all", map.feed(0, 0, 0, 0, 0), -1);
  }

  private static void fault(String text, int place) {
    LandMap map = new LandMap();
    Feeder.due("4: " + text, Feeder.read(map, 0, text), -1);
    Feeder.due("5: " + text, map.place(), place);
    Feeder.due("6: " + text, map.rule(), 0);
    Feeder.due("7: " + text, map.broken(), -1);
    Feeder.due("8: " + text, map.size(0, 0), 0);
  }

  private static void rule(String text, int rule, int broken) {
    LandMap map = new LandMap();
    Feeder.due("4: " + text, Feeder.read(map, 0, text), rule == 0 ? broken : -2);
    Feeder.due("6: " + text, map.rule(), rule);
    Feeder.due("7: " + text, map.broken(), rule == 0 ? -1 : broken);
    Feeder.due("5: " + text, map.place(), -1);
    Feeder.due("8: " + text, map.size(0, 0), rule == 0 ? broken : 0);
  }

  private static void promises4to7() {
    fault("", 0);
    fault(" \n ", 3);
    fault("P", 1);
    fault("P(1 2", 5);
    fault("P(1 2)x", 6);
    fault("P(1 2,3 4)", 5);
    fault("P(1,2)", 3);
    fault("P(1 2 3)", 6);
    fault("L(1 2)", 5);
    fault("L(1 2,3 4", 9);
    fault("L", 1);
    fault("p(1 2)", 0);
    fault("5 P(1 2)", 2);
    fault("5::P(1 2)", 2);
    fault("- 5:P(1 2)", 1);
    fault("1234567890:P(1 2)", 9);
    fault("-1234567890:P(1 2)", 10);
    fault("P(1234567890 2)", 11);
    fault("P(123456789 2)", 2);
    fault("P(-500001 2)", 2);
    fault("P(2 -500001)", 4);
    fault("P(2 500001", 4);
    fault("P(0000000001 2)", 11);
    fault("L(1 2,3 4)(", 11);
    fault("L(1 2,3 4)(5 6)", 14);
    fault("P(1 2)(3 4)", 6);
    fault("P(1\t2)", 3);
    rule("P(1 2)", 0, 1);
    rule("-999999999 : P(-500000-500000) 999999999:P(500000 500000)", 0, 2);
    rule(" 5\n:\nL ( 1 2 , 3-4 ) ( 5 6,7 8 )\nA(0 0,1 0,0 1,0 0) ", 0, 2);
    rule("L(0 0,1 1,0 0)", 0, 1);
    rule("L(0 0,2 2,2 0,0 2)", 0, 1);
    rule("L(0 0,1 1)(2 2,2 2)", 2, 0);
    rule("A(0 0,1 0,0 0)", 1, 0);
    rule("A(0 0,1 0,1 1,0 1)", 1, 0);
    rule("A(0 0,0 0,1 1,0 1)", 1, 0);
    rule("A(0 0,0 0,1 1,0 0)", 2, 0);
    rule("P(0 0)A(0 0,4 0,2 0,0 0)", 3, 1);
    rule("A(0 0,4 0,4 4,2 0,0 4,0 0)", 3, 0);
    rule("A(0 0,4 0,4 4,4 -1,0 0)", 3, 0);
    rule(SQUARE + "(2 2,9 2,9 4,2 2)", 4, 0);
    rule(SQUARE + "(0 2,0 4,2 2,0 2)", 4, 0);
    rule(SQUARE + SQUARE.substring(1), 4, 0);
    rule(SQUARE + "(9 9,10 9,9 10,9 9)", 5, 0);
    rule(SQUARE + "(-9-9,20-9,20 20,-9 20,-9-9)", 5, 0);
    rule(SQUARE + "(1 1,7 1,7 7,1 7,1 1)(2 2,3 2,3 3,2 2)", 5, 0);
    rule(SQUARE + "(2 2,3 2,3 3,2 2)(1 1,7 1,7 7,1 7,1 1)", 5, 0);
    rule(SQUARE + "(1 1,2 1,2 2,1 1)(2 2,3 2,3 3,2 2)", 0, 1);
    rule(SQUARE + "(0 4,4 0,8 4,4 4,0 4)", 6, 0);
    rule(SQUARE + "(0 4,2 2,2 4,0 4)(2 4,4 2,4 4,2 4)(4 4,8 4,6 6,4 4)", 6, 0);
    rule(SQUARE + "(0 4,2 2,2 4,0 4)(2 4,4 2,4 4,2 4)(4 4,7 4,6 6,4 4)", 0, 1);
    LandMap map = new LandMap();
    Feeder.due("4: a layer that there is not", Feeder.read(map, 12, "P(1 1"), -14);
    Feeder.due("5: none", map.place(), -1);
    Feeder.due("4: the tray was used up", map.read(0), -1);
    Feeder.due("5: an empty text", map.place(), 0);
    Feeder.due("4: below", Feeder.read(map, -1, "P(1 1)"), -14);
    Feeder.due("5: forgotten", map.place(), -1);
    Feeder.due("4: all or none", Feeder.read(map, 0, "P(1 1)P(2 2)A(0 0,1 1,0 0)"), -2);
    Feeder.due("7: the third", map.broken(), 2);
    Feeder.due("8: none", map.size(0, 0), 0);
    Feeder.due("4: fine again", Feeder.read(map, 0, "P(1 1)"), 1);
    Feeder.due("6: forgotten", map.rule(), 0);
    Feeder.due("7: forgotten", map.broken(), -1);
    Feeder.due("4: -1 before -2", Feeder.read(map, 0, "A(0 0,1 1,0 0)P"), -1);
    Feeder.due("6: 0", map.rule(), 0);
    Feeder.due("36: a fault of algebra()", Feeder.algebra(map, "1"), -1);
    Feeder.due("5: of algebra()", map.place(), 1);
  }

  private static void promises8to10() {
    LandMap map = new LandMap();
    Feeder.read(map, 11, "-7:L(1 2,3 4,5 6)(7-8,9 10)P(3 3)5:A(0 0,4 0,0 4,0 0)");
    int[] wrong = {-1, 12, MOST, LEAST};
    for (int layer : wrong) {
      Feeder.due("8: layer " + layer, map.size(layer, 0), -14);
      Feeder.due("9: layer " + layer, map.feature(layer, 0, 0), -1000000014);
      Feeder.due("10: layer " + layer, map.at(layer, 0, 0, 0, 0), 1000000);
    }
    Feeder.due("8: what", map.size(11, 2), -14);
    Feeder.due("8: what", map.size(11, -1), -14);
    int[][] want = {{1, -7, 2, 5}, {0, 0, 1, 1}, {2, 5, 1, 4}};
    for (int f = 0; f < 3; f++) {
      for (int what = 0; what < 4; what++) Feeder.due("9: " + f + " " + what, map.feature(11, f, what), want[f][what]);
      Feeder.due("9: what", map.feature(11, f, 4), -1000000014);
      Feeder.due("9: what", map.feature(11, f, -1), -1000000014);
    }
    Feeder.due("9: no feature", map.feature(11, 3, 0), -1000000014);
    Feeder.due("9: no feature", map.feature(11, -1, 0), -1000000014);
    Feeder.due("10: x", map.at(11, 0, 1, 0, 0), 7);
    Feeder.due("10: y", map.at(11, 0, 1, 0, 1), -8);
    Feeder.due("10: the last of a ring", map.at(11, 2, 0, 3, 0), 0);
    Feeder.due("10: no place", map.at(11, 0, 1, 2, 0), 1000000);
    Feeder.due("10: no place", map.at(11, 0, 1, -1, 0), 1000000);
    Feeder.due("10: no row", map.at(11, 0, 2, 0, 0), 1000000);
    Feeder.due("10: no row", map.at(11, 0, -1, 0, 0), 1000000);
    Feeder.due("10: no axis", map.at(11, 0, 0, 0, 2), 1000000);
    Feeder.due("10: no axis", map.at(11, 0, 0, 0, -1), 1000000);
    Feeder.due("15: drop", map.drop(11, 1), 0);
    Feeder.due("8: numbers", map.size(11, 0), 3);
    Feeder.due("8: present", map.size(11, 1), 2);
    Feeder.due("4: read", Feeder.read(map, 11, "P(0 0)"), 1);
    Feeder.due("9: the number stays free", map.feature(11, 1, 0), -1000000014);
    Feeder.due("9: a further number", map.feature(11, 3, 0), 0);
  }

  private static void promises11and12() {
    LandMap map = new LandMap();
    Feeder.read(map, 0, SQUARE + "(1 1,3 1,1 3,1 1)L(0 0,3 4,3 9)(0 0,1 1)P(5 5)A(0 0,0 1,1 0,0 0)");
    Feeder.due("11: with a hole", map.area2(0, 0), 124);
    Feeder.due("11: a line", map.area2(0, 1), 0);
    Feeder.due("11: a point", map.area2(0, 2), 0);
    Feeder.due("11: the other way round", map.area2(0, 3), 1);
    Feeder.due("11: none", map.area2(0, 4), 0);
    Feeder.due("11: no layer", map.area2(12, 0), 0);
    Feeder.due("12: an area", map.length(0, 0), 38);
    Feeder.due("12: a line", map.length(0, 1), 11);
    Feeder.due("12: a point", map.length(0, 2), 0);
    Feeder.due("12: none", map.length(0, 4), -14);
    Feeder.due("12: no layer", map.length(-1, 0), -14);
    Feeder.read(map, 1, "A(-500000-500000,500000-500000,500000 500000,-500000 500000,-500000-500000)"
        + "L(-500000-500000,500000 500000)L(0 0,500000 499999)");
    Feeder.due("11: the widest", map.area2(1, 0), 2000000000000L);
    Feeder.due("12: the longest", map.length(1, 1), 1414213);
    Feeder.due("12: just below", map.length(1, 2), 707106);
  }

  private static void promises13and14() {
    LandMap map = new LandMap();
    Feeder.due("13: out of bounds", map.spot(500001, 0), -1);
    Feeder.due("13: out of bounds", map.spot(0, -500001), -1);
    Feeder.due("13: out of bounds", map.spot(LEAST, MOST), -1);
    Feeder.due("13: one", map.spot(500000, -500000), 1);
    Feeder.due("13: two", map.spot(0, 0), 2);
    Feeder.due("13: three", map.spot(0, 0), 3);
    Feeder.due("13: there are 3", map.spot(0, 0), -1);
    Feeder.due("14: three spots", map.move(0, 0, 0, 0), -14);
    Feeder.due("13: used up", map.spot(0, 0), 1);
    Feeder.due("30: one spot", map.route(), -14);
    Feeder.due("13: used up", map.spot(0, 0), 1);
    Feeder.due("29: one spot", map.bar(), -14);
    Feeder.due("13: used up", map.spot(0, 0), 1);
    Feeder.read(map, 3, SQUARE + "(2 2,3 2,2 3,2 2)3:L(0 0,5 5,0 0)P(1 1)");
    Feeder.due("14: the spot before", map.move(3, 2, 0, 0), 0);
    Feeder.due("14: x", map.at(3, 2, 0, 0, 0), 0);
    Feeder.due("14: no spot", map.move(3, 2, 0, 0), -14);
    Feeder.due("14: no layer", Feeder.move(map, 12, 0, 0, 0, 1, 1), -14);
    Feeder.due("14: no feature", Feeder.move(map, 3, 3, 0, 0, 1, 1), -14);
    Feeder.due("14: no row", Feeder.move(map, 3, 0, 2, 0, 1, 1), -14);
    Feeder.due("14: no place", Feeder.move(map, 3, 0, 0, 5, 1, 1), -14);
    Feeder.due("14: no place", Feeder.move(map, 3, 0, 0, -1, 1, 1), -14);
    Feeder.due("14: the last of a ring", Feeder.move(map, 3, 0, 0, 4, -2, -3), 0);
    Feeder.due("14: the first too", map.at(3, 0, 0, 0, 0), -2);
    Feeder.due("14: the last", map.at(3, 0, 0, 4, 1), -3);
    Feeder.due("14: the first of a hole", Feeder.move(map, 3, 0, 1, 0, 1, 1), 0);
    Feeder.due("14: its last too", map.at(3, 0, 1, 3, 0), 1);
    Feeder.due("14: a line's end", Feeder.move(map, 3, 1, 0, 0, 9, 9), 0);
    Feeder.due("14: its other end stays", map.at(3, 1, 0, 2, 0), 0);
    Feeder.due("14: the value stays", map.feature(3, 1, 1), 3);
    Feeder.due("14: rule 2", Feeder.move(map, 3, 1, 0, 2, 5, 5), -2);
    Feeder.due("6: rule 2", map.rule(), 2);
    Feeder.due("7: 0", map.broken(), 0);
    Feeder.due("14: rule 5", Feeder.move(map, 3, 0, 1, 1, 20, 1), -2);
    Feeder.due("6: rule 4", map.rule(), 4);
    Feeder.due("14: nothing changed", map.at(3, 0, 1, 1, 0), 3);
    Feeder.due("14: -14 tells no rule", map.move(3, 0, 0, 0), -14);
    Feeder.due("6: none", map.rule(), 0);
    Feeder.due("7: none", map.broken(), -1);
    Feeder.due("17: read and four moves", map.undo(), 4);
  }

  private static void promises15to17() {
    LandMap map = new LandMap();
    Feeder.read(map, 0, "1:P(0 0)2:P(1 1)");
    Feeder.due("15: no layer", map.drop(12, 0), -14);
    Feeder.due("15: no feature", map.drop(0, 2), -14);
    Feeder.due("15: drop", map.drop(0, 0), 0);
    Feeder.due("15: again", map.drop(0, 0), -14);
    Feeder.due("16: dropped", map.revalue(0, 0, 4), -14);
    Feeder.due("14: dropped", Feeder.move(map, 0, 0, 0, 0, 1, 1), -14);
    Feeder.due("16: revalue", map.revalue(0, 1, LEAST), 0);
    Feeder.due("16: value", map.feature(0, 1, 1), LEAST);
    Feeder.due("16: no layer", map.revalue(-1, 0, 0), -14);
    Feeder.due("17: undo", map.undo(), 2);
    Feeder.due("17: value", map.feature(0, 1, 1), 2);
    Feeder.due("17: undo", map.undo(), 1);
    Feeder.due("17: there again", map.feature(0, 0, 1), 1);
    Feeder.due("17: undo", map.undo(), 0);
    Feeder.due("17: empty", map.size(0, 0), 0);
    Feeder.due("17: none", map.undo(), -3);
    Feeder.read(map, 0, "P(0 0)");
    for (int n = 1; n <= 40; n++) Feeder.due("16: revalue", map.revalue(0, 0, n), 0);
    for (int n = 29; n >= 0; n--) {
      Feeder.due("17: undo", map.undo(), n);
      Feeder.due("17: value", map.feature(0, 0, 1), 11 + n - 1);
    }
    Feeder.due("17: 30 are kept", map.undo(), -3);
    Feeder.due("17: value", map.feature(0, 0, 1), 10);
    Feeder.due("16: the same value is a change", map.revalue(0, 0, 10), 0);
    Feeder.due("17: undo", map.undo(), 0);
    Feeder.read(map, 1, "P(0 0)");
    Feeder.read(map, 2, "P(0 0)");
    Feeder.due("17: undo of layer 2", map.undo(), 1);
    Feeder.due("17: layer 1 stays", map.size(1, 0), 1);
    Feeder.due("17: layer 2", map.size(2, 0), 0);
    Feeder.due("17: refused calls are no change", Feeder.read(map, 2, "P"), -1);
    Feeder.due("17: undo of layer 1", map.undo(), 0);
    Feeder.due("17: layer 1", map.size(1, 0), 0);
  }

  private static void promises18to21() {
    LandMap map = new LandMap();
    for (int what = 0; what < 6; what++) {
      Feeder.due("19: nothing laid", map.laid(what), -13);
      Feeder.due("21: nothing laid", map.piece(99, what), -13);
      Feeder.due("20: nothing laid", map.node(0, what), 1000000);
    }
    Feeder.due("19: what before nothing laid", map.laid(6), -14);
    Feeder.due("19: what before nothing laid", map.laid(-1), -14);
    Feeder.due("21: what before nothing laid", map.piece(0, 6), -14);
    Feeder.due("18: no layer", map.lay(12, 0), -14);
    Feeder.due("18: no layer", map.lay(-1, 0), -14);
    Feeder.due("18: no layer", map.lay(0, 12), -14);
    Feeder.due("18: no layer", map.lay(0, -2), -14);
    Feeder.due("18: nothing laid still", map.laid(0), -13);
    Feeder.due("18: empty layers", map.lay(0, 1), 0);
    int[] none = {0, 0, 1, 0, 0, 0};
    for (int what = 0; what < 6; what++) Feeder.due("19: empty " + what, map.laid(what), none[what]);
    // Both cross at (0.5, 0.5), which is rounded to (1, 1).
    Feeder.read(map, 0, "L(0 0,1 1)P(9 9)");
    Feeder.read(map, 1, "L(0 1,1 0)L(1 1,0 0,1 1)");
    Feeder.due("18: lay", map.lay(0, 1), 3);
    int[] some = {5, 3, 1, 5, 1, 3};
    for (int what = 0; what < 6; what++) Feeder.due("19: " + what, map.laid(what), some[what]);
    int[][] nodes = {{0, 0, 1}, {0, 1, 1}, {1, 0, 1}, {1, 1, 3}, {9, 9, 0}};
    for (int n = 0; n < 5; n++) {
      for (int what = 0; what < 3; what++) Feeder.due("20: " + n + " " + what, map.node(n, what), nodes[n][what]);
      Feeder.due("20: what", map.node(n, 3), 1000000);
    }
    Feeder.due("20: no node", map.node(5, 0), 1000000);
    Feeder.due("20: no node", map.node(-1, 0), 1000000);
    int[][] pieces = {{0, 3, 0, 0, 1, 2}, {1, 3, 0, 0, 0, 1}, {2, 3, 0, 0, 0, 1}};
    for (int p = 0; p < 3; p++) {
      for (int what = 0; what < 6; what++) Feeder.due("21: " + p + " " + what, map.piece(p, what), pieces[p][what]);
      Feeder.due("21: what", map.piece(p, -1), -14);
    }
    Feeder.due("21: no piece", map.piece(3, 0), -14);
    Feeder.due("21: no piece", map.piece(-1, 0), -14);
    Feeder.due("18: a itself is none", map.lay(1, 1), 3);
    Feeder.due("19: none of b", map.laid(5), 0);
    Feeder.due("19: of a", map.laid(4), 3);
    Feeder.due("15: drop", map.drop(1, 0), 0);
    Feeder.due("19: what is laid stays", map.laid(1), 3);
    Feeder.due("18: without what was dropped", map.lay(1, -1), 1);
    Feeder.due("17: undo", map.undo(), 2);
    Feeder.due("19: what is laid stays", map.laid(1), 1);
    // A line beside hot places: the cell has its lower left corner, not the other three.
    Feeder.read(map, 5, "L(0 0,2 2)P(1 0)P(0 1)");
    Feeder.due("18: corners of two cells", map.lay(5, -1), 1);
    Feeder.read(map, 6, "L(0 1,1 0)P(1 1)P(0 0)");
    Feeder.due("18: the lower left corner", map.lay(6, -1), 2);
    Feeder.due("21: over (1, 1)", map.piece(0, 1), 3);
  }

  private static void promises22to24() {
    LandMap map = new LandMap();
    Feeder.due("22: what before nothing laid", map.face(0, 6), -3);
    Feeder.due("22: nothing laid", map.face(0, 0), -2);
    Feeder.due("22: nothing laid", map.face(-5, 0), -2);
    Feeder.due("23: nothing laid", map.faceArea2(1), 0);
    Feeder.due("24: nothing laid", map.locate(0, 0), -1000000);
    Feeder.due("24: nothing laid, out of bounds", map.locate(MOST, 0), -1000000);
    Feeder.read(map, 0, "P(1 1)" + SQUARE + "(2 2,2 6,6 6,6 2,2 2)A(-1-1,9-1,9 9,-1 9,-1-1)L(3 3,5 5)L(7 7,7 20)");
    Feeder.read(map, 1, "A(3 4,4 5,3 5,3 4)P(1 5)");
    Feeder.due("18: lay", map.lay(0, 1), 21);
    Feeder.due("19: faces", map.laid(2), 5);
    int[][] faces = {{1, 7, 0, 0, -1, -1}, {1, 12, 1, 0, 2, -1}, {2, 11, 2, 0, 1, -1}, {3, 9, 1, 0, 2, -1}, {1, 3, 1, 1, 2, 0}};
    long[] areas = {0, 72, 96, 31, 1};
    for (int f = 0; f < 5; f++) {
      for (int what = 0; what < 6; what++) Feeder.due("22: " + f + " " + what, map.face(f, what), faces[f][what]);
      Feeder.due("23: " + f, map.faceArea2(f), areas[f]);
    }
    Feeder.due("22: what", map.face(1, -1), -3);
    Feeder.due("22: no face", map.face(5, 0), -3);
    Feeder.due("22: no face", map.face(-1, 0), -3);
    Feeder.due("23: no face", map.faceArea2(5), 0);
    Feeder.due("23: no face", map.faceArea2(-1), 0);
    Feeder.due("24: outside", map.locate(-2, 5), 0);
    Feeder.due("24: out of bounds", map.locate(500001, 5), 0);
    Feeder.due("24: between", map.locate(0, -1), -1 - 1);
    Feeder.due("24: in the square", map.locate(1, 5), 2);
    Feeder.due("24: a lone node", map.locate(1, 1), 2);
    Feeder.due("24: in the hole", map.locate(5, 3), 3);
    Feeder.due("24: on a line", map.locate(4, 4), -1 - 9);
    Feeder.due("24: a node, the least piece", map.locate(-1, -1), -1);
  }

  private static void row(LandMap map, int layer, int f, int row, int... places) {
    for (int i = 0; i < places.length; i++) {
      Feeder.due("25: place " + i / 2 + " of row " + row, map.at(layer, f, row, i / 2, i % 2), places[i]);
    }
    Feeder.due("25: no more places", map.at(layer, f, row, places.length / 2, 0), 1000000);
  }

  private static void promise25() {
    LandMap map = new LandMap();
    Feeder.due("25: nothing laid", map.overlay(0, 0, false), -13);
    Feeder.due("25: no layer", map.overlay(12, 0, false), -14);
    Feeder.due("25: no way", map.overlay(0, 4, false), -14);
    Feeder.due("25: no way", map.overlay(0, -1, true), -14);
    Feeder.read(map, 0, "4:A(0 0,8 0,8 8,0 8,0 0)");
    Feeder.read(map, 1, "5:A(4 4,12 4,12 12,4 12,4 4)6:A(20 0,21 0,20 1,20 0)");
    map.lay(0, 1);
    Feeder.due("25: or", map.overlay(2, 0, false), 2);
    row(map, 2, 0, 0, 0, 0, 8, 0, 8, 4, 12, 4, 12, 12, 4, 12, 4, 8, 0, 8, 0, 0);
    Feeder.due("25: value", map.feature(2, 0, 1), 0);
    Feeder.due("25: and", map.overlay(2, 1, true), 1);
    Feeder.due("25: anew", map.size(2, 0), 1);
    row(map, 2, 0, 0, 4, 4, 8, 4, 8, 8, 4, 8, 4, 4);
    Feeder.due("25: of a", map.feature(2, 0, 1), 4);
    Feeder.due("25: without", map.overlay(2, 2, false), 1);
    row(map, 2, 0, 0, 0, 0, 8, 0, 8, 4, 4, 4, 4, 8, 0, 8, 0, 0);
    Feeder.due("25: just one", map.overlay(2, 3, true), 3);
    row(map, 2, 1, 0, 4, 8, 8, 8, 8, 4, 12, 4, 12, 12, 4, 12, 4, 8);
    Feeder.due("25: of b", map.feature(2, 1, 1), 5);
    Feeder.due("25: of b", map.feature(2, 2, 1), 6);
    Feeder.due("25: a change each", map.undo(), 5);
    Feeder.due("25: as it was", map.size(2, 0), 1);
    Feeder.due("25: into what is laid", map.overlay(0, 1, false), 1);
    Feeder.due("25: what is laid keeps the values", map.overlay(2, 1, true), 1);
    Feeder.due("25: the value as it was laid", map.feature(2, 0, 1), 4);
    // Wholes that meet at a node alone are two; holes that meet at one are cut apart.
    LandMap touch = new LandMap();
    Feeder.read(touch, 0, "A(0 0,2 0,2 2,0 2,0 0)A(2 2,4 2,4 4,2 4,2 2)");
    touch.lay(0, 1);
    Feeder.due("25: two wholes", touch.overlay(3, 0, false), 2);
    LandMap holes = new LandMap();
    Feeder.read(holes, 0, "A(-1-1,9-1,9 9,-1 9,-1-1)");
    Feeder.read(holes, 1, "A(2 2,4 2,4 4,2 4,2 2)A(0 0,2 0,2 2,0 2,0 0)");
    holes.lay(0, 1);
    Feeder.due("25: one whole", holes.overlay(3, 2, false), 1);
    Feeder.due("25: two holes", holes.feature(3, 0, 2), 3);
    row(holes, 3, 0, 0, -1, -1, 9, -1, 9, 9, -1, 9, -1, -1);
    row(holes, 3, 0, 1, 0, 0, 0, 2, 2, 2, 2, 0, 0, 0);
    row(holes, 3, 0, 2, 2, 2, 2, 4, 4, 4, 4, 2, 2, 2);
    Feeder.due("25: no features", holes.overlay(3, 1, false), 2);
    holes.drop(1, 0);
    holes.drop(1, 1);
    holes.lay(0, 1);
    Feeder.due("25: none", holes.overlay(3, 1, false), 0);
    Feeder.due("25: none is a change too", holes.size(3, 0), 0);
    Feeder.due("25: undo", holes.undo() >= 0, true);
    Feeder.due("25: two again", holes.size(3, 0), 2);
    // Split: the same least feature of a, but not over a piece.
    LandMap split = new LandMap();
    Feeder.read(split, 0, "1:A(0 0,9 0,9 2,0 2,0 0)2:A(4-1,5-1,5 3,4 3,4-1)");
    split.lay(0, -1);
    Feeder.due("25: split", split.overlay(1, 0, true), 3);
    Feeder.due("25: the whole of the first", split.feature(1, 0, 1), 1);
    Feeder.due("25: a part of the second", split.feature(1, 1, 1), 2);
    row(split, 1, 0, 0, 0, 0, 9, 0, 9, 2, 0, 2, 0, 0);
    Feeder.due("25: joined", split.overlay(1, 0, false), 1);
    Feeder.due("25: corners alone", split.feature(1, 0, 3), 13);
  }

  private static void promises26to28() {
    LandMap map = new LandMap();
    Feeder.due("26: none", map.other(0, 0), false);
    Feeder.due("27: none", map.relate(0, 0, 0, 0), -14);
    Feeder.due("28: none", map.relation(0, 0, 0), -14);
    Feeder.read(map, 0, SQUARE);
    Feeder.due("27: at first feature 0 of layer 0", map.relate(0, 0, 0, 0), 2);
    Feeder.due("28: equal", map.relation(0, 0, 0), 1);
    Feeder.due("26: no layer", map.other(12, 0), false);
    Feeder.due("26: no feature", map.other(0, 1), false);
    Feeder.due("27: the former stays", map.relate(0, 0, 1, 1), 1);
    Feeder.due("27: the outside face is a face", map.relate(0, 0, 2, 2), 2);
    Feeder.due("27: no entry", map.relate(0, 0, 3, 0), -14);
    Feeder.due("27: no entry", map.relate(0, 0, 0, -1), -14);
    Feeder.due("28: no name", map.relation(0, 0, 7), -14);
    Feeder.due("28: no name", map.relation(0, 0, -1), -14);
    Feeder.due("27: no feature", map.relate(0, 1, 0, 0), -14);
    // A closed row has no end; a node that is an end of two rows is none of the border.
    Feeder.read(map, 1, "L(0 0,4 0,4 4,0 0)P(0 0)L(0 0,5 0)(0 0,-5 0)L(20 20,30 30)");
    map.other(1, 1);
    Feeder.due("27: a closed line", map.relate(1, 0, 0, 0), 0);
    Feeder.due("27: two rows from one node", map.relate(1, 2, 0, 0), 0);
    Feeder.due("28: apart", map.relation(1, 3, 1), 1);
    Feeder.due("28: containing", map.relation(1, 2, 4), 1);
    Feeder.due("28: a point and an area's border touch", map.relation(0, 0, 2), 1);
    map.other(1, 2);
    Feeder.due("28: lines with a stretch overlap", map.relation(1, 0, 5), 1);
    Feeder.due("28: and do not cross", map.relation(1, 0, 6), 0);
    map.other(1, 0);
    Feeder.due("28: a line within an area crosses not", map.relation(0, 0, 6), 0);
    Feeder.due("15: drop", map.drop(1, 0), 0);
    Feeder.due("27: there no more", map.relate(0, 0, 0, 0), -14);
    Feeder.due("17: undo", map.undo() >= 0, true);
    Feeder.due("27: there again", map.relate(0, 0, 0, 0), 1);
    Feeder.due("27: nothing is laid by it", map.laid(0), -13);
  }

  private static void promises29to31() {
    LandMap map = new LandMap();
    Feeder.due("30: nothing laid", Feeder.route(map, 0, 0, 1, 1), -13);
    Feeder.read(map, 0, "2000000:L(0 0,3 4)3:L(3 4,3 8)3:L(3 4,3 10)0:L(3 10,9 10)P(50 50)A(60 60,70 60,60 70,60 60)");
    Feeder.read(map, 1, "7:L(3 8,9 8)");
    map.lay(0, 1);
    Feeder.due("30: weights above a million", Feeder.route(map, 0, 0, 3, 4), 5000000);
    Feeder.due("31: from", map.routeNode(0), 0);
    Feeder.due("31: to", map.routeNode(1), 1);
    Feeder.due("31: no more", map.routeNode(2), -1);
    Feeder.due("31: below", map.routeNode(-1), -1);
    Feeder.due("30: two lines on one piece", Feeder.route(map, 3, 4, 3, 10), 18);
    Feeder.due("30: a closed road", Feeder.route(map, 3, 4, 9, 10), -3);
    Feeder.due("31: found none", map.routeNode(0), -1);
    Feeder.due("30: from a closed road to itself", Feeder.route(map, 9, 10, 9, 10), 0);
    Feeder.due("31: itself", map.routeNode(1), -1);
    Feeder.due("30: layer b has no roads", Feeder.route(map, 3, 4, 9, 8), -1);
    Feeder.due("30: a point is no road", Feeder.route(map, 50, 50, 50, 50), -1);
    Feeder.due("30: an area is no road", Feeder.route(map, 60, 60, 70, 60), -1);
    Feeder.due("30: no node", Feeder.route(map, 3, 5, 3, 4), -1);
    // A barred turn is gone round by a turn back, which is a turn too.
    LandMap turn = new LandMap();
    Feeder.read(turn, 0, "1:L(0 0,10 0,20 0)1:L(10 0,10 5)");
    turn.lay(0, -1);
    Feeder.due("30: straight", Feeder.route(turn, 0, 0, 20, 0), 20);
    Feeder.due("29: bar", Feeder.bar(turn, 0, 0, 10, 0, 20, 0), 1);
    Feeder.due("29: barred already", Feeder.bar(turn, 0, 0, 10, 0, 20, 0), 1);
    Feeder.due("30: there and back", Feeder.route(turn, 0, 0, 20, 0), 30);
    Feeder.due("31: over (10, 5)", turn.routeNode(2), 2);
    Feeder.due("31: again", turn.routeNode(3), 1);
    Feeder.due("30: the other way is free", Feeder.route(turn, 20, 0, 0, 0), 20);
    Feeder.due("29: the turn back", Feeder.bar(turn, 10, 0, 10, 5, 10, 0), 2);
    Feeder.due("30: none", Feeder.route(turn, 0, 0, 20, 0), -3);
    Feeder.due("30: with two spots less", turn.route(), -14);
    Feeder.due("30: found", Feeder.route(turn, 0, 0, 10, 5), 15);
    Feeder.due("18: refused", turn.lay(12, 0), -14);
    Feeder.due("31: stays", turn.routeNode(0), 0);
    turn.lay(0, -1);
    Feeder.due("31: lay() laid since", turn.routeNode(0), -1);
    Feeder.due("29: bars stay", Feeder.route(turn, 0, 0, 20, 0), -3);
    for (int n = 3; n <= 100; n++) Feeder.due("29: bar", Feeder.bar(turn, n, 0, 0, 0, 0, 0), n);
    Feeder.due("29: there are 100", Feeder.bar(turn, 101, 0, 0, 0, 0, 0), -12);
    Feeder.due("29: barred already", Feeder.bar(turn, 100, 0, 0, 0, 0, 0), 100);
    Feeder.due("29: two spots", Feeder.bar(turn, 100, 0, 0, 0), -14);
    // Of equal costs the fewest roads, then the least row of nodes.
    LandMap even = new LandMap();
    Feeder.read(even, 0, "1:L(0 0,2 0,4 0)2:L(0 0,0 1,2 1)1:L(10 0,12 2,14 0)1:L(10 0,12-2,14 0)");
    even.lay(0, -1);
    Feeder.due("30: even", Feeder.route(even, 10, 0, 14, 0), 4);
    Feeder.due("31: the lesser node", even.node(even.routeNode(1), 1), -2);
  }

  private static void promises32to37() {
    LandMap map = new LandMap();
    Feeder.due("33: nothing laid", map.raster(1, 1, 1), -13);
    int[][] wrong = {{0, 1, 1}, {10001, 1, 1}, {1, 0, 1}, {1, 51, 1}, {1, 1, 0}, {1, 1, 51}, {-1, -1, -1}, {MOST, MOST, MOST}};
    for (int[] w : wrong) Feeder.due("33: what there is not", map.raster(w[0], w[1], w[2]), -14);
    Feeder.read(map, 0, "1:P(2 2)-4:A(0 0,4 0,4 4,0 4,0 0)9:A(2 0,8 0,8 4,2 4,2 0)7:A(499000 499000,500000 499000,500000 500000,499000 499000)");
    Feeder.read(map, 1, "A(9 9,20 9,9 20,9 9)");
    map.lay(0, 1);
    Feeder.due("33: at 0, 0 at first", map.raster(1, 50, 50), 0);
    Feeder.due("34: on the edge", map.cell(0, 0, 0), 3000000000L);
    Feeder.due("34: the first", map.cell(0, 1, 1), -4);
    Feeder.due("34: a piece", map.cell(0, 2, 1), 3000000000L);
    Feeder.due("34: a lone node", map.cell(0, 2, 2), 3000000000L);
    Feeder.due("34: the least of two", map.cell(0, 3, 1), -4);
    Feeder.due("34: the second", map.cell(0, 5, 1), 9);
    Feeder.due("34: of b none", map.cell(0, 10, 10), 3000000000L);
    Feeder.due("34: no cell", map.cell(0, 50, 0), 4000000000L);
    Feeder.due("34: no cell", map.cell(0, 0, 50), 4000000000L);
    Feeder.due("34: no cell", map.cell(0, -1, 0), 4000000000L);
    Feeder.due("34: no cell", map.cell(0, 0, -1), 4000000000L);
    Feeder.due("34: no raster", map.cell(1, 0, 0), 4000000000L);
    Feeder.due("34: no raster", map.cell(-1, 0, 0), 4000000000L);
    Feeder.due("35: w", map.rasterSize(0, 0), 50);
    Feeder.due("35: h", map.rasterSize(0, 1), 50);
    Feeder.due("35: filled", map.rasterSize(0, 2), 6 + 9);
    Feeder.due("35: what", map.rasterSize(0, 3), -14);
    Feeder.due("35: no raster", map.rasterSize(1, 0), -14);
    Feeder.due("32: out of bounds", map.corner(500001, 0), false);
    Feeder.due("32: out of bounds", map.corner(0, LEAST), false);
    Feeder.due("32: corner", map.corner(499999, 499500), true);
    Feeder.due("33: beyond the bounds", map.raster(10000, 50, 50), 1);
    Feeder.due("34: the value", map.cell(1, 0, 0), 7);
    Feeder.due("35: the rest is outside", map.rasterSize(1, 2), 1);
    Feeder.due("16: revalue", map.revalue(0, 3, 5), 0);
    Feeder.due("33: as it was laid", map.raster(1, 1, 2), 2);
    Feeder.due("34: as it was laid", map.cell(2, 0, 0), 7);
    Feeder.due("36: blank beyond the edge", Feeder.algebra(map, "at(c,0,1)"), 3);
    Feeder.due("34: up", map.cell(3, 0, 0), 7);
    Feeder.due("34: beyond", map.cell(3, 0, 1), 3000000000L);
    Feeder.due("36: least numbers", Feeder.algebra(map, "(-999999999*2-147483650)/-1+0*c"), 4);
    Feeder.due("34: the least by -1 is itself", map.cell(4, 0, 0), LEAST);
    Feeder.due("36: least numbers", Feeder.algebra(map, "(-999999999*2-147483650)%-1+0*c"), 5);
    Feeder.due("34: the rest is 0", map.cell(5, 0, 0), 0);
    Feeder.due("36: abs", Feeder.algebra(map, "abs(-999999999*2-147483650)+0*c"), 6);
    Feeder.due("34: abs wraps", map.cell(6, 0, 0), LEAST);
    Feeder.due("36: cut", Feeder.algebra(map, "-c/2*100+-c%2"), 7);
    Feeder.due("34: cut", map.cell(7, 0, 0), -301);
    Feeder.due("36: by 0", Feeder.algebra(map, "blank(c/0)*10+blank(c%0)+c*0"), 8);
    Feeder.due("34: by 0", map.cell(8, 0, 0), 11);
    Feeder.due("36: the order of signs", Feeder.algebra(map, "1+2*3-4-5<c-7+0*c?10:20"), 9);
    Feeder.due("34: the order of signs", map.cell(9, 0, 0), 10);
    Feeder.due("36: raster 9 is j", Feeder.algebra(map, "j"), 10);
    Feeder.due("36: raster 10 has no letter", Feeder.algebra(map, "c+k"), -1);
    Feeder.due("5: at the letter", map.place(), 2);
    Feeder.due("36: name without bracket", Feeder.algebra(map, "c+min"), -1);
    Feeder.due("5: at the name", map.place(), 2);
    Feeder.due("36: comparing twice", Feeder.algebra(map, "c<1<2"), -1);
    Feeder.due("5: at the second", map.place(), 3);
    Feeder.due("36: k", Feeder.algebra(map, "sum(c, 4)"), -1);
    Feeder.due("5: at k", map.place(), 7);
    Feeder.due("36: dx", Feeder.algebra(map, "at(c,-51,0)"), -1);
    Feeder.due("5: at dx", map.place(), 5);
    Feeder.due("36: dy", Feeder.algebra(map, "at(c,50,-50)"), 11);
    Feeder.due("37: -14", map.spread(2, 12), -14);
    Feeder.due("37: -14", map.spread(-1, 2), -14);
    Feeder.due("37: -1", map.spread(0, 2), -1);
    Feeder.due("37: costs", map.spread(2, 2), 12);
    Feeder.due("34: a seed", map.cell(12, 0, 0), 0);
  }

  private static void promise38() {
    LandMap map = new LandMap();
    Feeder.due("38: nothing laid", map.strays(), -13);
    Feeder.read(map, 0, "L(0 0,100 37)L(0 37,100 1)L(3 99,50 0)L(-7 20,130 21)P(10 4)A(20 20,40 13,31 40,20 20)");
    map.lay(0, -1);
    Feeder.due("38: strays", map.strays(), 0);
  }
}
