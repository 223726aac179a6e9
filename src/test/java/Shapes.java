import java.util.ArrayList;
import java.util.List;
import java.util.Random;

/** Random features in a small square, so that they meet often. */
final class Shapes {
  private Shapes() {}

  // Of wide places many lie near one line: edges that nearly touch over long ways.
  static int[] place(Random random, int reach) {
    if (reach > 100000 && random.nextInt(4) != 0) {
      return new int[] {random.nextInt(2 * reach + 1) - reach, random.nextInt(5) - 2};
    }
    return new int[] {random.nextInt(2 * reach + 1) - reach, random.nextInt(2 * reach + 1) - reach};
  }

  static int[][] ring(Random random, int reach) {
    int many = 3 + random.nextInt(4);
    int[][] row = new int[many + 1][];
    for (int i = 0; i < many; i++) row[i] = place(random, reach);
    row[many] = row[0].clone();
    return row;
  }

  static int[][] box(Random random, int reach) {
    int[] p = place(random, reach);
    int w = 1 + random.nextInt(reach);
    int h = 1 + random.nextInt(reach);
    int[][] row = {{p[0], p[1]}, {p[0] + w, p[1]}, {p[0] + w, p[1] + h}, {p[0], p[1] + h}, {p[0], p[1]}};
    if (random.nextBoolean()) return row;
    int[][] back = new int[5][];
    for (int i = 0; i < 5; i++) back[i] = row[4 - i];
    return back;
  }

  /** An area that may break every rule. */
  static Feeder.Shape anyArea(Random random, int reach) {
    Feeder.Shape shape = new Feeder.Shape(2, random.nextInt(20) - 5);
    boolean boxes = random.nextInt(3) == 0;
    if (random.nextInt(3) == 0) {
      int r = reach + 1;
      shape.rows.add(new int[][] {{-r, -r}, {r, -r}, {r, r}, {-r, r}, {-r, -r}});
    } else {
      shape.rows.add(boxes ? box(random, reach) : ring(random, reach));
    }
    int holes = random.nextInt(4);
    for (int i = 0; i < holes; i++) {
      int[][] row = boxes || random.nextBoolean() ? box(random, reach) : ring(random, reach);
      shape.rows.add(row);
    }
    return shape;
  }

  /** An area that read() takes; rules are tested elsewhere. */
  static Feeder.Shape area(Random random, int reach) {
    LandMap judge = new LandMap();
    for (int n = 0; n < 400; n++) {
      Feeder.Shape shape = anyArea(random, reach);
      if (Feeder.read(judge, 0, shape.text()) == 1) return shape;
      if (judge.size(0, 0) > 100) judge = new LandMap();
      if (n % 50 == 49) judge = new LandMap();
    }
    Feeder.Shape shape = new Feeder.Shape(2, 1);
    shape.rows.add(new int[][] {{0, 0}, {reach, 0}, {0, reach}, {0, 0}});
    return shape;
  }

  static Feeder.Shape line(Random random, int reach) {
    Feeder.Shape shape = new Feeder.Shape(1, random.nextInt(20) - 3);
    int rows = 1 + random.nextInt(2);
    for (int r = 0; r < rows; r++) {
      int many = 2 + random.nextInt(4);
      int[][] row = new int[many][];
      for (int i = 0; i < many; i++) {
        row[i] = place(random, reach);
        while (i > 0 && row[i][0] == row[i - 1][0] && row[i][1] == row[i - 1][1]) row[i] = place(random, reach);
      }
      if (many > 3 && random.nextInt(3) == 0) {
        int[] last = row[many - 2];
        if (last[0] != row[0][0] || last[1] != row[0][1]) row[many - 1] = row[0].clone();
      }
      shape.rows.add(row);
    }
    return shape;
  }

  static Feeder.Shape point(Random random, int reach) {
    Feeder.Shape shape = new Feeder.Shape(0, random.nextInt(9));
    shape.rows.add(new int[][] {place(random, reach)});
    return shape;
  }

  static Feeder.Shape any(Random random, int reach) {
    int kind = random.nextInt(7);
    return kind == 0 ? point(random, reach) : kind <= 2 ? line(random, reach) : area(random, reach);
  }

  static List<Feeder.Shape> some(Random random, int reach, int most) {
    List<Feeder.Shape> list = new ArrayList<>();
    int many = random.nextInt(most + 1);
    for (int i = 0; i < many; i++) list.add(any(random, reach));
    return list;
  }

  static String text(List<Feeder.Shape> shapes) {
    StringBuilder out = new StringBuilder();
    for (Feeder.Shape shape : shapes) out.append(shape.text());
    return out.toString();
  }
}
