import java.util.Arrays;

/** A house of land maps in whole numbers; README.md says how to use it. */
public final class LandMap {
  private static final int LAYERS = 12;
  private static final int NUMBERS = 200;
  private static final int BOUND = 500000;
  private static final int PLACES_IN_ONE = 2000;
  private static final int PLACES_FOR_LIFE = 60000;
  private static final int UNDOS = 30;
  private static final int TRAY_BYTES = 16000;
  private static final int FED_BYTES = 65536;
  private static final int FEED_BYTES = 20;
  private static final int SPOTS = 3;
  private static final int BARS = 100;
  private static final int RASTERS = 40;
  private static final int SIDE = 50;
  private static final int CELLS = SIDE * SIDE;
  private static final int LONGEST_SIDE = 10000;
  private static final int NINE_DIGITS = 999999999;

  private static final int HOTS = 6000;
  private static final int PIECES = 9000;
  private static final int EDGES = 20000;
  private static final int STEPS = 20000;
  // Above HOTS, and a power of two, so that two nodes make one key.
  private static final int NODE_KEY = 8192;

  private static final int NO_NUMBER = -14;
  private static final int NOT_LAID = -13;
  private static final int FAULT = -1;
  private static final int BROKEN = -2;
  private static final int NOTHING = -3;
  private static final int NO_ROOM = -12;
  private static final int NO_PLACE = 1000000;
  private static final int NO_FEATURE = -1000000014;
  private static final int NOWHERE = -1000000;
  private static final long BLANK = 3000000000L;
  private static final long NO_CELL = 4000000000L;

  private static final int POINT = 0;
  private static final int LINE = 1;
  private static final int AREA = 2;

  private static final int INSIDE = 0;
  private static final int BORDER = 1;
  private static final int OUTSIDE = 2;

  private final Tray tray;
  private final Draft draft;
  private final Rules rules;
  private final Layer none;
  private final Layer[] layers;
  private final Layer[] pastLayers;
  private final int[] pastNumbers;
  private int pastCount;
  private int placesMade;
  private final Ints spots;
  private Laying current;
  private Laying spare;
  private final int[] second;
  private final int[] entries;
  private final Joiner joiner;
  private final Router router;
  private final int[] origin;
  private final Raster[] rasters;
  private int rasterCount;
  private final Formula formula;

  public LandMap() {
    tray = new Tray();
    draft = new Draft();
    rules = new Rules();
    none = new Layer(new Feature[0]);
    layers = new Layer[LAYERS];
    for (int i = 0; i < LAYERS; i++) layers[i] = none;
    pastLayers = new Layer[UNDOS];
    pastNumbers = new int[UNDOS];
    spots = new Ints();
    second = new int[2];
    entries = new int[9];
    joiner = new Joiner();
    router = new Router();
    origin = new int[2];
    rasters = new Raster[RASTERS];
    formula = new Formula();
  }

  public int feed(int a, int b, int c, int d, int e) {
    if (!tray.hasRoom()) return FAULT;
    tray.put(a);
    tray.put(b);
    tray.put(c);
    tray.put(d);
    tray.put(e);
    return tray.length;
  }

  public boolean end(int n) {
    if (n < 0 || n > tray.length) return false;
    tray.length = n;
    return true;
  }

  public int read(int layer) {
    tray.begin();
    rules.forget();
    int answer = NO_NUMBER;
    if (isLayer(layer)) {
      if (!draft.parse(tray)) answer = FAULT;
      else if (!rules.hold(draft)) answer = BROKEN;
      else answer = hasRoomFor(layers[layer].numbers()) ? takeDraft(layer, layers[layer]) : NO_ROOM;
    }
    tray.useUp();
    return answer;
  }

  public int place() {
    return tray.fault;
  }

  public int rule() {
    return rules.brokenRule;
  }

  public int broken() {
    return rules.brokenFeature;
  }

  public int size(int layer, int what) {
    if (!isLayer(layer) || what < 0 || what > 1) return NO_NUMBER;
    return what == 0 ? layers[layer].numbers() : layers[layer].present();
  }

  public int feature(int layer, int f, int what) {
    Feature it = featureOf(layer, f);
    if (it == null) return NO_FEATURE;
    if (what == 0) return it.kind;
    if (what == 1) return it.value;
    if (what == 2) return it.rows();
    if (what == 3) return it.places();
    return NO_FEATURE;
  }

  public int at(int layer, int f, int row, int k, int axis) {
    Feature it = featureOf(layer, f);
    if (it == null || axis < 0 || axis > 1) return NO_PLACE;
    int index = it.indexOf(row, k);
    if (index < 0) return NO_PLACE;
    return axis == 0 ? it.xs[index] : it.ys[index];
  }

  public long area2(int layer, int f) {
    Feature it = featureOf(layer, f);
    if (it == null || it.kind != AREA) return 0;
    long sum = Math.abs(it.ringArea2(0));
    for (int row = 1; row < it.rows(); row++) sum -= Math.abs(it.ringArea2(row));
    return sum;
  }

  public long length(int layer, int f) {
    Feature it = featureOf(layer, f);
    return it == null ? NO_NUMBER : it.edgeLengths();
  }

  public int spot(int x, int y) {
    if (spots.count >= 2 * SPOTS || !inBounds(x, y)) return FAULT;
    spots.add(x);
    spots.add(y);
    return spots.count / 2;
  }

  public int move(int layer, int f, int row, int k) {
    rules.forget();
    Feature it = featureOf(layer, f);
    int index = it == null || spots.count != 2 ? -1 : it.indexOf(row, k);
    int answer = NO_NUMBER;
    if (it != null && index >= 0) {
      draftMove(it, row, index);
      if (!rules.hold(draft)) answer = BROKEN;
      else answer = placesMade + draft.xs.count <= PLACES_FOR_LIFE ? takeMove(layer, f) : NO_ROOM;
    }
    spots.clear();
    return answer;
  }

  public int drop(int layer, int f) {
    if (featureOf(layer, f) == null) return NO_NUMBER;
    change(layer, layers[layer].with(f, null));
    return 0;
  }

  public int revalue(int layer, int f, int v) {
    Feature it = featureOf(layer, f);
    if (it == null) return NO_NUMBER;
    change(layer, layers[layer].with(f, new Feature(it.kind, v, it.xs, it.ys, it.starts)));
    return 0;
  }

  public int undo() {
    if (pastCount <= 0) return NOTHING;
    pastCount--;
    layers[pastNumbers[pastCount]] = pastLayers[pastCount];
    return pastCount;
  }

  public int lay(int a, int b) {
    if (!isLayer(a) || b != -1 && !isLayer(b)) return NO_NUMBER;
    Laying fresh = spareLaying();
    if (!fresh.build(layers[a], b == -1 || b == a ? none : layers[b])) return NO_ROOM;
    fresh.faces.build(fresh);
    spare = current;
    current = fresh;
    router.forget();
    return current.pieces();
  }

  public int laid(int what) {
    if (what < 0 || what > 5) return NO_NUMBER;
    if (current == null) return NOT_LAID;
    if (what == 1) return current.pieces();
    if (what == 2) return current.faces.count;
    if (what == 4) return aboveNothing(current.goA);
    if (what == 5) return aboveNothing(current.goB);
    // Every hot place is a node: a vertex, or a crossing that bends two edges.
    return current.nodes();
  }

  public int node(int n, int what) {
    if (current == null || n < 0 || n >= current.nodes()) return NO_PLACE;
    if (what == 0) return current.nodeX.get(n);
    if (what == 1) return current.nodeY.get(n);
    if (what == 2) return current.degree(n);
    return NO_PLACE;
  }

  public int piece(int p, int what) {
    if (what < 0 || what > 5) return NO_NUMBER;
    if (current == null) return NOT_LAID;
    if (p < 0 || p >= current.pieces()) return NO_NUMBER;
    if (what == 0) return current.from.get(p);
    if (what == 1) return current.to.get(p);
    if (what == 2) return current.faces.wayFace.get(2 * p);
    if (what == 3) return current.faces.wayFace.get(2 * p + 1);
    return what == 4 ? current.goA.get(p) : current.goB.get(p);
  }

  public int face(int f, int what) {
    if (what < 0 || what > 5) return NOTHING;
    if (current == null) return BROKEN;
    if (f < 0 || f >= current.faces.count) return NOTHING;
    if (what == 0) return current.faces.rings.get(f);
    if (what == 1) return current.faces.ways.get(f);
    if (what == 2) return current.faces.coverA.get(f);
    if (what == 3) return current.faces.coverB.get(f);
    return what == 4 ? current.faces.leastA.get(f) : current.faces.leastB.get(f);
  }

  public long faceArea2(int f) {
    if (current == null || f <= 0 || f >= current.faces.count) return 0;
    return current.faces.area2Of(f);
  }

  public int locate(int x, int y) {
    if (current == null) return NOWHERE;
    if (!inBounds(x, y)) return 0;
    current.lookAtColumn(x);
    return current.find(x, y);
  }

  public int overlay(int layer, int way, boolean split) {
    if (!isLayer(layer) || way < 0 || way > 3) return NO_NUMBER;
    if (current == null) return NOT_LAID;
    if (!joiner.join(current, way, split, draft) || !hasRoomFor(0)) return NO_ROOM;
    return takeDraft(layer, none);
  }

  public boolean other(int layer, int f) {
    if (featureOf(layer, f) == null) return false;
    second[0] = layer;
    second[1] = f;
    return true;
  }

  public int relate(int layer, int f, int i, int j) {
    if (i < 0 || i > 2 || j < 0 || j > 2) return NO_NUMBER;
    int code = layTwo(layer, f);
    if (code < 0) return code;
    fillEntries(spareLaying());
    return entries[3 * i + j];
  }

  public int relation(int layer, int f, int name) {
    if (name < 0 || name > 6) return NO_NUMBER;
    int code = layTwo(layer, f);
    if (code < 0) return code;
    fillEntries(spareLaying());
    return bearsName(name, featureOf(layer, f), featureOf(second[0], second[1])) ? 1 : 0;
  }

  public int bar() {
    int answer = spots.count == 2 * SPOTS ? router.barTurn(spots) : NO_NUMBER;
    spots.clear();
    return answer;
  }

  public long route() {
    router.forget();
    long answer = seekRoute();
    spots.clear();
    return answer;
  }

  public int routeNode(int k) {
    return k < 0 || k >= router.found.count ? -1 : router.found.get(k);
  }

  public boolean corner(int x, int y) {
    if (!inBounds(x, y)) return false;
    origin[0] = x;
    origin[1] = y;
    return true;
  }

  public int raster(int side, int w, int h) {
    if (side < 1 || side > LONGEST_SIDE || w < 1 || w > SIDE || h < 1 || h > SIDE) return NO_NUMBER;
    if (current == null) return NOT_LAID;
    if (rasterCount >= RASTERS) return NO_ROOM;
    Raster made = new Raster(w, h);
    for (int i = 0; i < w; i++) {
      int x = origin[0] + side * i;
      current.lookAtColumn(x);
      for (int j = 0; j < h; j++) {
        made.put(i, j, current.valueAt(x, origin[1] + side * j));
      }
    }
    return keepRaster(made);
  }

  public long cell(int r, int i, int j) {
    return isRaster(r) ? rasters[r].look(i, j) : NO_CELL;
  }

  public int rasterSize(int r, int what) {
    if (!isRaster(r)) return NO_NUMBER;
    if (what == 0) return rasters[r].width;
    if (what == 1) return rasters[r].height;
    return what == 2 ? rasters[r].filled() : NO_NUMBER;
  }

  public int algebra() {
    tray.begin();
    int answer = FAULT;
    if (formula.parse(tray, rasters, rasterCount)) {
      answer = rasterCount < RASTERS ? keepRaster(formula.run()) : NO_ROOM;
    }
    tray.useUp();
    return answer;
  }

  public int spread(int c, int s) {
    if (!isRaster(c) || !isRaster(s)) return NO_NUMBER;
    if (!rasters[c].isLike(rasters[s])) return FAULT;
    if (rasterCount >= RASTERS) return NO_ROOM;
    return keepRaster(rasters[c].spreadFrom(rasters[s]));
  }

  public int strays() {
    return current == null ? NOT_LAID : current.countStrays();
  }

  private static boolean isLayer(int layer) {
    return layer >= 0 && layer < LAYERS;
  }

  private static boolean inBounds(int x, int y) {
    return x >= -BOUND && x <= BOUND && y >= -BOUND && y <= BOUND;
  }

  private boolean isRaster(int r) {
    return r >= 0 && r < rasterCount;
  }

  private Feature featureOf(int layer, int f) {
    return isLayer(layer) ? layers[layer].get(f) : null;
  }

  private boolean hasRoomFor(int numbersBefore) {
    return numbersBefore + draft.features() <= NUMBERS && placesMade + draft.xs.count <= PLACES_FOR_LIFE;
  }

  private int takeDraft(int layer, Layer before) {
    placesMade += draft.xs.count;
    change(layer, before.plus(draft));
    return draft.features();
  }

  private void draftMove(Feature it, int row, int index) {
    draft.copy(it);
    draft.put(index, spots.get(0), spots.get(1));
    int twin = it.ringTwin(row, index);
    if (twin >= 0) draft.put(twin, spots.get(0), spots.get(1));
  }

  private int takeMove(int layer, int f) {
    placesMade += draft.xs.count;
    change(layer, layers[layer].with(f, draft.build(0)));
    return 0;
  }

  private void change(int layer, Layer next) {
    if (pastCount == UNDOS) {
      for (int i = 1; i < UNDOS; i++) {
        pastLayers[i - 1] = pastLayers[i];
        pastNumbers[i - 1] = pastNumbers[i];
      }
      pastCount--;
    }
    pastLayers[pastCount] = layers[layer];
    pastNumbers[pastCount] = layer;
    pastCount++;
    layers[layer] = next;
  }

  private Laying spareLaying() {
    if (spare == null) spare = new Laying();
    return spare;
  }

  private static int aboveNothing(Ints row) {
    int sum = 0;
    for (int i = 0; i < row.count; i++) {
      if (row.items[i] > 0) sum++;
    }
    return sum;
  }

  /** Lays two features in the spare room, so that what lay() laid stays; below 0 a code. */
  private int layTwo(int layer, int f) {
    Feature one = featureOf(layer, f);
    Feature two = featureOf(second[0], second[1]);
    if (one == null || two == null) return NO_NUMBER;
    Laying land = spareLaying();
    if (!land.build(layerOf(one), layerOf(two))) return NO_ROOM;
    land.faces.build(land);
    return 0;
  }

  private static Layer layerOf(Feature it) {
    Feature[] list = new Feature[1];
    list[0] = it;
    return new Layer(list);
  }

  private void fillEntries(Laying land) {
    Arrays.fill(entries, -1);
    for (int f = 0; f < land.faces.count; f++) {
      enter(land.faces.partOfFace(0, f), land.faces.partOfFace(1, f), 2);
    }
    for (int p = 0; p < land.pieces(); p++) {
      enter(land.faces.partOfPiece(0, p), land.faces.partOfPiece(1, p), 1);
    }
    for (int n = 0; n < land.nodes(); n++) {
      enter(land.faces.partOfNode(0, n), land.faces.partOfNode(1, n), 0);
    }
  }

  private void enter(int i, int j, int dimension) {
    entries[3 * i + j] = Math.max(entries[3 * i + j], dimension);
  }

  private boolean bearsName(int name, Feature one, Feature two) {
    if (one == null || two == null) return false;
    boolean meet = has(INSIDE, INSIDE);
    boolean within = meet && !has(INSIDE, OUTSIDE) && !has(BORDER, OUTSIDE);
    boolean containing = meet && !has(OUTSIDE, INSIDE) && !has(OUTSIDE, BORDER);
    boolean apart = !meet && !has(INSIDE, BORDER) && !has(BORDER, INSIDE) && !has(BORDER, BORDER);
    if (name == 0) return within && containing;
    if (name == 1) return apart;
    if (name == 2) return !apart && !meet;
    if (name == 3) return within;
    if (name == 4) return containing;
    return name == 5 ? overlaps(one, two) : crosses(one, two);
  }

  private boolean has(int i, int j) {
    return entries[3 * i + j] >= 0;
  }

  // A kind's number is its dimension.
  private boolean overlaps(Feature one, Feature two) {
    return one.kind == two.kind && entries[0] == one.kind && has(INSIDE, OUTSIDE) && has(OUTSIDE, INSIDE);
  }

  private boolean crosses(Feature one, Feature two) {
    if (one.kind == two.kind) return one.kind == LINE && entries[0] == 0;
    boolean beyond = one.kind < two.kind ? has(INSIDE, OUTSIDE) : has(OUTSIDE, INSIDE);
    return has(INSIDE, INSIDE) && beyond;
  }

  private long seekRoute() {
    if (spots.count != 4) return NO_NUMBER;
    if (current == null) return NOT_LAID;
    return router.seek(current, spots);
  }

  private int keepRaster(Raster made) {
    rasters[rasterCount] = made;
    rasterCount++;
    return rasterCount - 1;
  }

  /** Twice the area of the triangle, above 0 if (x, y) lies left of the way from (x1, y1) to (x2, y2). */
  private static long side(int x1, int y1, int x2, int y2, int x, int y) {
    return (long) (x2 - x1) * (y - y1) - (long) (y2 - y1) * (x - x1);
  }

  private static boolean isBetween(int low, int middle, int high) {
    return Math.min(low, high) <= middle && middle <= Math.max(low, high);
  }

  /** LENGTH of two places that are dx and dy apart. */
  private static long distance(long dx, long dy) {
    long square = dx * dx + dy * dy;
    long low = 0;
    long high = 4L * BOUND;
    for (int step = 0; step < 64 && low < high; step++) {
      long middle = (low + high + 1) / 2;
      if (middle * middle <= square) low = middle;
      else high = middle - 1;
    }
    return low;
  }

  private static long[] withRoom(long[] row, int need) {
    return need <= row.length ? row : Arrays.copyOf(row, Math.max(need, 2 * row.length));
  }

  /** Sorts the first n keys in place, by a heap: no call may make rows of its own. */
  private static void sort(long[] keys, int n) {
    if (n > keys.length) return;
    for (int round = n + n / 2; round > 0; round--) {
      int end = round > n ? n : round - 1;
      int i = round > n ? round - n - 1 : 0;
      long key = round > n ? keys[i] : keys[end];
      if (round <= n) keys[end] = keys[0];
      for (int child = 2 * i + 1; child < end; child = 2 * i + 1) {
        if (child + 1 < end && keys[child + 1] > keys[child]) child++;
        if (keys[child] <= key) break;
        keys[i] = keys[child];
        i = child;
      }
      keys[i] = key;
    }
  }

  /** A row of ints that grows and is used again. */
  private static final class Ints {
    int[] items = new int[16];
    int count;

    void clear() {
      count = 0;
    }

    void add(int item) {
      if (count >= items.length) items = Arrays.copyOf(items, 2 * count + 16);
      items[count] = item;
      count++;
    }

    int get(int i) {
      return i >= 0 && i < count ? items[i] : 0;
    }

    void set(int i, int item) {
      if (i >= 0 && i < count) items[i] = item;
    }

    void plus(int i, int more) {
      if (i >= 0 && i < count) items[i] += more;
    }

    void cut(int n) {
      if (n >= 0 && n < count) count = n;
    }

    void fill(int n, int item) {
      if (n > items.length) items = new int[Math.max(n, 2 * items.length)];
      for (int i = 0; i < n; i++) items[i] = item;
      count = Math.max(0, n);
    }
  }

  /** The bytes that were fed, and how far they have been read. */
  private static final class Tray {
    byte[] text = new byte[64];
    int length;
    int fed;
    int at;
    int fault = -1;
    int number;

    boolean hasRoom() {
      return length + FEED_BYTES <= TRAY_BYTES && fed + FEED_BYTES <= FED_BYTES;
    }

    void put(int word) {
      if (length + 4 > text.length) text = Arrays.copyOf(text, 2 * length + 64);
      for (int i = 0; i < 4; i++) text[length + i] = (byte) (word >>> (24 - 8 * i));
      length += 4;
      fed += 4;
    }

    void begin() {
      at = 0;
      fault = -1;
    }

    void useUp() {
      length = 0;
    }

    boolean failAt(int where) {
      fault = where;
      return false;
    }

    int look() {
      return at >= 0 && at < length ? text[at] & 255 : -1;
    }

    static boolean isBlank(int c) {
      return c == 32 || c == 10;
    }

    int skipBlanks() {
      for (int n = 0; n < length && isBlank(look()); n++) at++;
      return look();
    }

    boolean take(int wanted) {
      if (skipBlanks() != wanted) return failAt(at);
      at++;
      return true;
    }

    static boolean isDigit(int c) {
      return c >= '0' && c <= '9';
    }

    boolean takeNumber(int low, int high, boolean signed) {
      int start = at;
      boolean below = signed && look() == '-';
      if (below) at++;
      int digits = 0;
      int sum = 0;
      for (int n = 0; n < 10 && isDigit(look()); n++) {
        if (digits == 9) return failAt(at);
        sum = 10 * sum + look() - '0';
        digits++;
        at++;
      }
      if (digits == 0) return failAt(at);
      number = below ? -sum : sum;
      return number >= low && number <= high || failAt(start);
    }
  }

  /** A point, line or area; never changed once it is made, so states may share it. */
  private static final class Feature {
    final int kind;
    final int value;
    final int[] xs;
    final int[] ys;
    final int[] starts;

    Feature(int kind, int value, int[] xs, int[] ys, int[] starts) {
      this.kind = kind;
      this.value = value;
      this.xs = xs;
      this.ys = ys;
      this.starts = starts;
    }

    int rows() {
      return starts.length - 1;
    }

    int places() {
      return xs.length;
    }

    int indexOf(int row, int k) {
      if (row < 0 || row >= rows() || k < 0 || k >= starts[row + 1] - starts[row]) return -1;
      return starts[row] + k;
    }

    /** The place that goes with the first or last one of a ring; -1 if none does. */
    int ringTwin(int row, int index) {
      if (kind != AREA || row < 0 || row >= rows()) return -1;
      int first = starts[row];
      int last = starts[row + 1] - 1;
      if (index == first) return last;
      return index == last ? first : -1;
    }

    long ringArea2(int row) {
      if (row < 0 || row >= rows()) return 0;
      long sum = 0;
      for (int i = starts[row]; i + 1 < starts[row + 1]; i++) {
        sum += (long) xs[i] * ys[i + 1] - (long) xs[i + 1] * ys[i];
      }
      return sum;
    }

    long edgeLengths() {
      long sum = 0;
      for (int row = 0; row < rows(); row++) {
        for (int i = starts[row]; i + 1 < starts[row + 1]; i++) {
          sum += distance(xs[i + 1] - xs[i], ys[i + 1] - ys[i]);
        }
      }
      return sum;
    }

    /** How many rows have an end there; one that ends where it begins has none. */
    int endsAt(int x, int y) {
      int sum = 0;
      for (int row = 0; row < rows(); row++) {
        int first = starts[row];
        int last = starts[row + 1] - 1;
        boolean begins = xs[first] == x && ys[first] == y;
        boolean stops = xs[last] == x && ys[last] == y;
        if (begins != stops) sum++;
      }
      return sum;
    }
  }

  /** The features of a layer by their numbers, null where one was dropped; never changed. */
  private static final class Layer {
    final Feature[] list;

    Layer(Feature[] list) {
      this.list = list;
    }

    int numbers() {
      return list.length;
    }

    int present() {
      int sum = 0;
      for (int i = 0; i < list.length; i++) {
        if (list[i] != null) sum++;
      }
      return sum;
    }

    Feature get(int f) {
      return f >= 0 && f < list.length ? list[f] : null;
    }

    int valueOf(int f) {
      Feature it = get(f);
      return it == null ? 0 : it.value;
    }

    int kindOf(int f) {
      Feature it = get(f);
      return it == null ? -1 : it.kind;
    }

    Layer with(int f, Feature it) {
      Feature[] next = list.clone();
      if (f >= 0 && f < next.length) next[f] = it;
      return new Layer(next);
    }

    Layer plus(Draft draft) {
      Feature[] next = new Feature[list.length + draft.features()];
      for (int i = 0; i < list.length; i++) next[i] = list[i];
      for (int i = 0; i < draft.features(); i++) next[list.length + i] = draft.build(i);
      return new Layer(next);
    }
  }

  /** Features on the bench, before a layer takes them: rows that each call uses again. */
  private static final class Draft {
    final Ints kinds = new Ints();
    final Ints values = new Ints();
    final Ints firstRows = new Ints();
    final Ints rowStarts = new Ints();
    final Ints xs = new Ints();
    final Ints ys = new Ints();

    void clear() {
      kinds.clear();
      values.clear();
      firstRows.clear();
      rowStarts.clear();
      xs.clear();
      ys.clear();
    }

    int features() {
      return kinds.count;
    }

    void beginFeature(int kind, int value) {
      kinds.add(kind);
      values.add(value);
      firstRows.add(rowStarts.count);
    }

    void beginRow() {
      rowStarts.add(xs.count);
    }

    void addPlace(int x, int y) {
      xs.add(x);
      ys.add(y);
    }

    void put(int index, int x, int y) {
      xs.set(index, x);
      ys.set(index, y);
    }

    int rowsFrom(int i) {
      return i >= 0 && i < firstRows.count ? firstRows.items[i] : rowStarts.count;
    }

    int placesFrom(int row) {
      return row >= 0 && row < rowStarts.count ? rowStarts.items[row] : xs.count;
    }

    int placesOf(int i) {
      return placesFrom(rowsFrom(i + 1)) - placesFrom(rowsFrom(i));
    }

    Feature build(int i) {
      int firstRow = rowsFrom(i);
      int rows = rowsFrom(i + 1) - firstRow;
      int first = placesFrom(firstRow);
      int end = placesFrom(firstRow + rows);
      int[] starts = new int[rows + 1];
      for (int r = 0; r <= rows; r++) starts[r] = placesFrom(firstRow + r) - first;
      int[] ownXs = Arrays.copyOfRange(xs.items, first, end);
      int[] ownYs = Arrays.copyOfRange(ys.items, first, end);
      return new Feature(kinds.get(i), values.get(i), ownXs, ownYs, starts);
    }

    void copy(Feature it) {
      clear();
      beginFeature(it.kind, it.value);
      for (int row = 0; row < it.rows(); row++) {
        beginRow();
        for (int i = it.starts[row]; i < it.starts[row + 1]; i++) addPlace(it.xs[i], it.ys[i]);
      }
    }

    boolean parse(Tray tray) {
      clear();
      for (int n = 0; n <= tray.length; n++) {
        if (!parseFeature(tray)) return false;
        if (tray.skipBlanks() < 0) return true;
      }
      return tray.failAt(tray.at);
    }

    private boolean parseFeature(Tray tray) {
      int c = tray.skipBlanks();
      int value = 0;
      if (c == '-' || Tray.isDigit(c)) {
        if (!tray.takeNumber(-NINE_DIGITS, NINE_DIGITS, true)) return false;
        value = tray.number;
        if (!tray.take(':')) return false;
        c = tray.skipBlanks();
      }
      int kind = c == 'P' ? POINT : c == 'L' ? LINE : c == 'A' ? AREA : -1;
      if (kind < 0) return tray.failAt(tray.at);
      tray.at++;
      beginFeature(kind, value);
      for (int n = 0; n <= tray.length; n++) {
        if (!parseRow(tray, kind == POINT)) return false;
        if (kind == POINT || tray.skipBlanks() != '(') return true;
      }
      return tray.failAt(tray.at);
    }

    private boolean parseRow(Tray tray, boolean single) {
      beginRow();
      if (!tray.take('(') || !parsePlace(tray)) return false;
      if (single) return tray.take(')');
      if (!tray.take(',') || !parsePlace(tray)) return false;
      for (int n = 0; n <= tray.length && tray.skipBlanks() == ','; n++) {
        tray.at++;
        if (!parsePlace(tray)) return false;
      }
      return tray.take(')');
    }

    private boolean parsePlace(Tray tray) {
      tray.skipBlanks();
      if (placesOf(kinds.count - 1) >= PLACES_IN_ONE) return tray.failAt(tray.at);
      if (!tray.takeNumber(-BOUND, BOUND, true)) return false;
      int x = tray.number;
      if (tray.look() != '-' && !Tray.isBlank(tray.look())) return tray.failAt(tray.at);
      tray.skipBlanks();
      if (!tray.takeNumber(-BOUND, BOUND, true)) return false;
      addPlace(x, tray.number);
      return true;
    }
  }

  /** The six rules of a feature, and which one was last found broken. */
  private static final class Rules {
    private static final int APART = 0;
    private static final int TOUCH = 1;
    private static final int CROSS = 2;
    private static final int STRETCH = 3;

    int brokenRule;
    int brokenFeature = -1;
    private Draft draft;
    private int[] xs;
    private int[] ys;
    private final Ints edges = new Ints();
    private final Ints edgeRings = new Ints();
    private final Ints cuts = new Ints();
    private final Ints groups = new Ints();
    private long[] keys = new long[16];

    void forget() {
      brokenRule = 0;
      brokenFeature = -1;
    }

    /** Whether every feature keeps the rules; else the first one that does not is told. */
    boolean hold(Draft features) {
      draft = features;
      xs = features.xs.items;
      ys = features.ys.items;
      for (int i = 0; i < features.features(); i++) {
        int from = features.rowsFrom(i);
        int to = features.rowsFrom(i + 1);
        boolean area = features.kinds.get(i) == AREA;
        if (area && !areClosed(from, to)) brokenRule = 1;
        else if (hasRepeat(from, to)) brokenRule = 2;
        else if (area) brokenRule = meetings(from, to);
        if (area && brokenRule == 0 && !holesLieInside(from, to)) brokenRule = 5;
        if (area && brokenRule == 0 && !isOneWhole(from, to)) brokenRule = 6;
        if (brokenRule > 0) {
          brokenFeature = i;
          return false;
        }
      }
      return true;
    }

    private int first(int row) {
      return draft.placesFrom(row);
    }

    /** The last place of a row: of a ring the first one again. */
    private int last(int row) {
      return draft.placesFrom(row + 1) - 1;
    }

    private boolean same(int p, int q) {
      return xs[p] == xs[q] && ys[p] == ys[q];
    }

    private boolean areClosed(int from, int to) {
      for (int row = from; row < to; row++) {
        if (last(row) - first(row) < 3 || !same(first(row), last(row))) return false;
      }
      return true;
    }

    private boolean hasRepeat(int from, int to) {
      for (int row = from; row < to; row++) {
        for (int p = first(row); p < last(row); p++) {
          if (same(p, p + 1)) return true;
        }
      }
      return false;
    }

    /** Rule 3 or 4 if edges break it; edge p goes from place p to the next. */
    private int meetings(int from, int to) {
      sortEdges(from, to);
      int found = 0;
      for (int i = 0; i < edges.count; i++) {
        int p = edges.get(i);
        int right = Math.max(xs[p], xs[p + 1]);
        for (int j = i + 1; j < edges.count && left(edges.get(j)) <= right; j++) {
          int broken = brokenBy(i, j);
          if (broken == 3) return 3;
          found = Math.max(found, broken);
        }
      }
      return found;
    }

    private int left(int p) {
      return Math.min(xs[p], xs[p + 1]);
    }

    private void sortEdges(int from, int to) {
      int n = 0;
      for (int row = from; row < to; row++) {
        for (int p = first(row); p < last(row); p++) {
          keys = withRoom(keys, n + 1);
          keys[n] = ((long) (left(p) + BOUND) << 40) | ((long) row << 20) | p;
          n++;
        }
      }
      sort(keys, n);
      edges.clear();
      edgeRings.clear();
      for (int i = 0; i < n; i++) {
        edges.add((int) (keys[i] & 0xFFFFF));
        edgeRings.add((int) (keys[i] >> 20 & 0xFFFFF));
      }
    }

    private int brokenBy(int i, int j) {
      int p = Math.min(edges.get(i), edges.get(j));
      int q = Math.max(edges.get(i), edges.get(j));
      int row = edgeRings.get(i);
      if (row != edgeRings.get(j)) return meeting(p, q) >= CROSS ? 4 : 0;
      if (q == p + 1) return turnsBack(p, q) ? 3 : 0;
      if (p == first(row) && q == last(row) - 1) return turnsBack(q, p) ? 3 : 0;
      return meeting(p, q) == APART ? 0 : 3;
    }

    /** Whether the edge behind p goes back along it: else the two have just a corner in common. */
    private boolean turnsBack(int p, int next) {
      long dx = (long) xs[p] - xs[p + 1];
      long dy = (long) ys[p] - ys[p + 1];
      long ex = (long) xs[next + 1] - xs[next];
      long ey = (long) ys[next + 1] - ys[next];
      return dx * ey == dy * ex && dx * ex + dy * ey > 0;
    }

    private int turn(int p, int q) {
      return Long.signum(side(xs[p], ys[p], xs[p + 1], ys[p + 1], xs[q], ys[q]));
    }

    private int meeting(int p, int q) {
      int ahead = turn(p, q) * turn(p, q + 1);
      int back = turn(q, p) * turn(q, p + 1);
      if (turn(p, q) == 0 && turn(p, q + 1) == 0) {
        return xs[p] == xs[p + 1] ? shared(ys, p, q) : shared(xs, p, q);
      }
      if (ahead < 0 && back < 0) return CROSS;
      return ahead <= 0 && back <= 0 ? TOUCH : APART;
    }

    private int shared(int[] axis, int p, int q) {
      int low = Math.max(Math.min(axis[p], axis[p + 1]), Math.min(axis[q], axis[q + 1]));
      int high = Math.min(Math.max(axis[p], axis[p + 1]), Math.max(axis[q], axis[q + 1]));
      if (low > high) return APART;
      return low == high ? TOUCH : STRETCH;
    }

    private boolean holesLieInside(int from, int to) {
      for (int hole = from + 1; hole < to; hole++) {
        if (hasPart(hole, from, false)) return false;
        for (int rest = from + 1; rest < to; rest++) {
          if (rest != hole && hasPart(hole, rest, true)) return false;
        }
      }
      return true;
    }

    /** Whether a stretch of a ring lies inside another one (or outside it). */
    private boolean hasPart(int ring, int around, boolean inside) {
      for (int p = first(ring); p < last(ring); p++) {
        cutEdge(p, around);
        for (int i = 0; i + 1 < cuts.count; i++) {
          if (isMiddleInside(cuts.get(i), cuts.get(i + 1), around) == inside) return true;
        }
      }
      return false;
    }

    // Rings that keep rule 4 meet at corners alone: between these an edge is on one side.
    private void cutEdge(int p, int ring) {
      cuts.clear();
      cuts.add(p);
      for (int q = first(ring); q < last(ring); q++) {
        if (isOn(p, q) && !same(p, q) && !same(p + 1, q)) cuts.add(q);
      }
      cuts.add(p + 1);
      for (int i = 2; i + 1 < cuts.count; i++) {
        for (int j = i; j > 1 && away(p, cuts.get(j)) < away(p, cuts.get(j - 1)); j--) {
          int later = cuts.get(j - 1);
          cuts.set(j - 1, cuts.get(j));
          cuts.set(j, later);
        }
      }
    }

    private int away(int p, int q) {
      return Math.abs(xs[q] - xs[p]) + Math.abs(ys[q] - ys[p]);
    }

    private boolean isOn(int p, int q) {
      return isBetween(xs[p], xs[q], xs[p + 1]) && isBetween(ys[p], ys[q], ys[p + 1])
          && side(xs[p], ys[p], xs[p + 1], ys[p + 1], xs[q], ys[q]) == 0;
    }

    private boolean isMiddleInside(int a, int b, int ring) {
      int x = xs[a] + xs[b];
      int y = ys[a] + ys[b];
      boolean inside = false;
      for (int p = first(ring); p < last(ring); p++) {
        boolean up = 2 * ys[p] <= y && 2 * ys[p + 1] > y;
        boolean down = 2 * ys[p + 1] <= y && 2 * ys[p] > y;
        if (!up && !down) continue;
        long turn = side(2 * xs[p], 2 * ys[p], 2 * xs[p + 1], 2 * ys[p + 1], x, y);
        if (up ? turn > 0 : turn < 0) inside = !inside;
      }
      return inside;
    }

    // Rings that keep rule 5 cut the inside in two just where they and the places
    // at which they touch make a round.
    private boolean isOneWhole(int from, int to) {
      groups.clear();
      for (int i = from; i < to; i++) groups.add(i - from);
      for (int row = from; row < to; row++) {
        for (int p = first(row); p < last(row); p++) {
          if (!wasSeen(p, from, row) && !joinsAt(p, row, from, to)) return false;
        }
      }
      return true;
    }

    private boolean wasSeen(int p, int from, int row) {
      for (int q = first(from); q < first(row); q++) {
        if (same(p, q)) return true;
      }
      return false;
    }

    private boolean joinsAt(int p, int row, int from, int to) {
      for (int other = from; other < to; other++) {
        if (other == row || !touches(other, p)) continue;
        int a = group(row - from);
        int b = group(other - from);
        if (a == b) return false;
        groups.set(a, b);
      }
      return true;
    }

    private boolean touches(int row, int p) {
      for (int q = first(row); q < last(row); q++) {
        if (isOn(q, p)) return true;
      }
      return false;
    }

    private int group(int i) {
      int at = i;
      for (int n = 0; n < groups.count && groups.get(at) != at; n++) at = groups.get(at);
      return at;
    }
  }

  /** Two layers laid together: their edges bent, cut into pieces between nodes. */
  private static final class Laying {
    // Squeezed when it is full: far above HOTS, so that it is seldom done.
    private static final int HOT_BUFFER = 16384;

    Layer first;
    Layer second;
    final Ints nodeX = new Ints();
    final Ints nodeY = new Ints();
    final Ints from = new Ints();
    final Ints to = new Ints();
    final Ints goA = new Ints();
    final Ints goB = new Ints();
    final Ints stepPieces = new Ints();
    final Ints slotSteps = new Ints();
    final Ints fan = new Ints();
    final Ints fanStarts = new Ints();
    final Ints fanPlaces = new Ints();
    final Faces faces = new Faces();
    private final Ints slotEdges = new Ints();
    private final Ints edges = new Ints();
    private final Ints order = new Ints();
    private final Ints path = new Ints();
    private long[] keys = new long[16];
    private int keyCount;

    int nodes() {
      return nodeX.count;
    }

    int pieces() {
      return from.count;
    }

    int degree(int n) {
      return fanStarts.get(n + 1) - fanStarts.get(n);
    }

    /** The node from which way w goes: ways 2p and 2p + 1 go along piece p, the first from its lesser node. */
    int tail(int w) {
      return (w & 1) == 0 ? from.get(w >> 1) : to.get(w >> 1);
    }

    long[] keysFor(int n) {
      keys = withRoom(keys, n);
      return keys;
    }

    /** Lays two layers, but for the faces; false if there is no room. */
    boolean build(Layer a, Layer b) {
      first = a;
      second = b;
      if (!gatherEdges()) return false;
      orderEdges();
      if (!addPlaces() || !addCrossings() || !squeezeHot()) return false;
      numberNodes();
      if (!bendEdges() || !gatherPieces()) return false;
      countGoing();
      spreadFans();
      return true;
    }

    /** Features of both layers stand in one row of slots, those of a first. */
    private int slots() {
      return first.numbers() + second.numbers();
    }

    private Feature inSlot(int slot) {
      return slot < first.numbers() ? first.get(slot) : second.get(slot - first.numbers());
    }

    private boolean gatherEdges() {
      int sum = 0;
      for (int s = 0; s < slots(); s++) {
        Feature it = inSlot(s);
        if (it != null) sum += it.places() - it.rows();
      }
      if (sum > EDGES) return false;
      edges.clear();
      slotEdges.clear();
      for (int s = 0; s < slots(); s++) {
        slotEdges.add(edges.count / 4);
        Feature it = inSlot(s);
        if (it != null) addEdges(it);
      }
      slotEdges.add(edges.count / 4);
      return true;
    }

    private void addEdges(Feature it) {
      for (int row = 0; row < it.rows(); row++) {
        for (int i = it.starts[row]; i + 1 < it.starts[row + 1]; i++) {
          boolean ahead = it.xs[i] < it.xs[i + 1] || it.xs[i] == it.xs[i + 1] && it.ys[i] < it.ys[i + 1];
          addEnd(it, ahead ? i : i + 1);
          addEnd(it, ahead ? i + 1 : i);
        }
      }
    }

    private void addEnd(Feature it, int i) {
      edges.add(it.xs[i]);
      edges.add(it.ys[i]);
    }

    private int x1(int e) {
      return edges.get(4 * e);
    }

    private int y1(int e) {
      return edges.get(4 * e + 1);
    }

    private int x2(int e) {
      return edges.get(4 * e + 2);
    }

    private int y2(int e) {
      return edges.get(4 * e + 3);
    }

    private boolean addPlaces() {
      keyCount = 0;
      for (int s = 0; s < slots(); s++) {
        Feature it = inSlot(s);
        for (int i = 0; it != null && i < it.places(); i++) addHot(it.xs[i], it.ys[i]);
        if (keyCount >= HOT_BUFFER && !squeezeHot()) return false;
      }
      return true;
    }

    private void numberNodes() {
      nodeX.clear();
      nodeY.clear();
      for (int i = 0; i < keyCount; i++) {
        nodeX.add((int) (keys[i] >> 20) - BOUND);
        nodeY.add((int) (keys[i] & 0xFFFFF) - BOUND);
      }
    }

    private void orderEdges() {
      int n = edges.count / 4;
      keysFor(n);
      for (int e = 0; e < n; e++) keys[e] = ((long) (x1(e) + BOUND) << 20) | e;
      sort(keys, n);
      order.clear();
      for (int i = 0; i < n; i++) order.add((int) (keys[i] & 0xFFFFF));
    }

    private void addHot(int x, int y) {
      keys = withRoom(keys, keyCount + 1);
      keys[keyCount] = ((long) (x + BOUND) << 20) | (y + BOUND);
      keyCount++;
    }

    /** Leaves each hot place once, in their order; false if there are too many. */
    private boolean squeezeHot() {
      sort(keys, keyCount);
      int kept = 0;
      for (int i = 0; i < keyCount; i++) {
        if (kept > 0 && keys[kept - 1] == keys[i]) continue;
        keys[kept] = keys[i];
        kept++;
      }
      keyCount = kept;
      return kept <= HOTS;
    }

    private boolean addCrossings() {
      for (int i = 0; i < order.count; i++) {
        int e = order.get(i);
        int right = x2(e);
        for (int j = i + 1; j < order.count && x1(order.get(j)) <= right; j++) {
          addCrossing(e, order.get(j));
          if (keyCount >= HOT_BUFFER && !squeezeHot()) return false;
        }
      }
      return true;
    }

    // Edges that touch have a corner there, which is hot already.
    private void addCrossing(int e, int f) {
      if (Math.max(y1(e), y2(e)) < Math.min(y1(f), y2(f))) return;
      if (Math.max(y1(f), y2(f)) < Math.min(y1(e), y2(e))) return;
      if (!isSplitBy(e, f) || !isSplitBy(f, e)) return;
      long dx = (long) x2(e) - x1(e);
      long dy = (long) y2(e) - y1(e);
      long ex = (long) x2(f) - x1(f);
      long ey = (long) y2(f) - y1(f);
      long below = dx * ey - dy * ex;
      long above = ((long) x1(f) - x1(e)) * ey - ((long) y1(f) - y1(e)) * ex;
      if (below == 0) return;
      if (below < 0) {
        below = -below;
        above = -above;
      }
      addHot(x1(e) + rounded(dx * above, below), y1(e) + rounded(dy * above, below));
    }

    private boolean isSplitBy(int e, int f) {
      long one = side(x1(f), y1(f), x2(f), y2(f), x1(e), y1(e));
      long two = side(x1(f), y1(f), x2(f), y2(f), x2(e), y2(e));
      return one < 0 && two > 0 || one > 0 && two < 0;
    }

    /** The greatest whole number not above a fraction and a half more; below is above 0. */
    private static int rounded(long above, long below) {
      return below <= 0 ? 0 : (int) Math.floorDiv(2 * above + below, 2 * below);
    }

    private boolean bendEdges() {
      keyCount = 0;
      slotSteps.clear();
      for (int s = 0; s < slots(); s++) {
        slotSteps.add(keyCount);
        for (int e = slotEdges.get(s); e < slotEdges.get(s + 1); e++) {
          bend(e);
          if (keyCount + path.count - 1 > STEPS) return false;
          addSteps();
        }
      }
      slotSteps.add(keyCount);
      return true;
    }

    /** Fills the path with the nodes through whose cells an edge goes, in the order along it. */
    private void bend(int e) {
      path.clear();
      int right = x2(e);
      for (int n = firstNodeFrom(x1(e)); n < nodes() && nodeX.get(n) <= right; n++) {
        if (!isBetween(y1(e), nodeY.get(n), y2(e)) || !meetsCell(e, n)) continue;
        path.add(n);
        for (int i = path.count - 1; i > 0 && along(e, path.get(i)) < along(e, path.get(i - 1)); i--) {
          int later = path.get(i - 1);
          path.set(i - 1, path.get(i));
          path.set(i, later);
        }
      }
    }

    private int firstNodeFrom(int x) {
      int low = 0;
      int high = nodes();
      for (int step = 0; step < 32 && low < high; step++) {
        int middle = (low + high) / 2;
        if (nodeX.get(middle) < x) low = middle + 1;
        else high = middle;
      }
      return low;
    }

    // The node lies in the box round the edge, so the edge meets the cell if its line
    // does. The lower left corner alone of the four belongs to the cell.
    private boolean meetsCell(int e, int n) {
      long dx = (long) x2(e) - x1(e);
      long dy = (long) y2(e) - y1(e);
      long twice = 2 * side(x1(e), y1(e), x2(e), y2(e), nodeX.get(n), nodeY.get(n));
      return Math.abs(twice) < Math.abs(dx) + Math.abs(dy) || twice == dx - dy;
    }

    private long along(int e, int n) {
      long dx = (long) x2(e) - x1(e);
      long dy = (long) y2(e) - y1(e);
      return dx * (nodeX.get(n) - x1(e)) + dy * (nodeY.get(n) - y1(e));
    }

    private void addSteps() {
      for (int i = 0; i + 1 < path.count; i++) {
        int u = Math.min(path.get(i), path.get(i + 1));
        int v = Math.max(path.get(i), path.get(i + 1));
        keysFor(keyCount + 1);
        keys[keyCount] = ((long) (u * NODE_KEY + v) << 20) | keyCount;
        keyCount++;
      }
    }

    private boolean gatherPieces() {
      sort(keys, keyCount);
      from.clear();
      to.clear();
      stepPieces.fill(keyCount, 0);
      long former = -1;
      for (int i = 0; i < keyCount; i++) {
        long pair = keys[i] >> 20;
        if (pair != former) {
          if (from.count >= PIECES) return false;
          from.add((int) (pair / NODE_KEY));
          to.add((int) (pair % NODE_KEY));
          former = pair;
        }
        stepPieces.set((int) (keys[i] & 0xFFFFF), from.count - 1);
      }
      return true;
    }

    private void countGoing() {
      goA.fill(pieces(), 0);
      goB.fill(pieces(), 0);
      for (int s = 0; s < slots(); s++) {
        Ints going = s < first.numbers() ? goA : goB;
        for (int k = slotSteps.get(s); k < slotSteps.get(s + 1); k++) going.plus(stepPieces.get(k), 1);
      }
    }

    /** The ways from each node, counterclockwise. */
    private void spreadFans() {
      int ways = 2 * pieces();
      fanStarts.fill(nodes() + 1, 0);
      for (int w = 0; w < ways; w++) fanStarts.plus(tail(w) + 1, 1);
      for (int n = 0; n < nodes(); n++) fanStarts.plus(n + 1, fanStarts.get(n));
      fan.fill(ways, 0);
      fanPlaces.fill(nodes(), 0);
      for (int w = 0; w < ways; w++) {
        int n = tail(w);
        int place = fanPlaces.get(n);
        fanPlaces.plus(n, 1);
        insertInFan(fanStarts.get(n), place, w);
      }
      fanPlaces.fill(ways, 0);
      for (int i = 0; i < ways; i++) fanPlaces.set(fan.get(i), i);
    }

    private void insertInFan(int start, int place, int w) {
      int i = start + place;
      for (; i > start && isBefore(w, fan.get(i - 1)); i--) fan.set(i, fan.get(i - 1));
      fan.set(i, w);
    }

    private boolean isBefore(int w, int v) {
      int n = tail(w);
      int wx = nodeX.get(tail(w ^ 1)) - nodeX.get(n);
      int wy = nodeY.get(tail(w ^ 1)) - nodeY.get(n);
      int vx = nodeX.get(tail(v ^ 1)) - nodeX.get(n);
      int vy = nodeY.get(tail(v ^ 1)) - nodeY.get(n);
      boolean wUp = wy > 0 || wy == 0 && wx > 0;
      boolean vUp = vy > 0 || vy == 0 && vx > 0;
      if (wUp != vUp) return wUp;
      return (long) wx * vy - (long) wy * vx > 0;
    }

    /** The way that is k steps clockwise of w in the fan of its node. */
    int clockwise(int w, int k) {
      int n = tail(w);
      int start = fanStarts.get(n);
      int many = degree(n);
      if (many <= 0) return w;
      return fan.get(start + Math.floorMod(fanPlaces.get(w) - start - k, many));
    }

    /** The way behind w round the face to its left. */
    int follow(int w) {
      return clockwise(w ^ 1, 1);
    }

    int nodeAt(int x, int y) {
      int low = 0;
      int high = nodes();
      for (int step = 0; step < 32 && low < high; step++) {
        int middle = (low + high) / 2;
        int nx = nodeX.get(middle);
        if (nx < x || nx == x && nodeY.get(middle) < y) low = middle + 1;
        else high = middle;
      }
      return low < nodes() && nodeX.get(low) == x && nodeY.get(low) == y ? low : -1;
    }

    private long sideOf(int p, int x, int y) {
      int u = from.get(p);
      int v = to.get(p);
      return side(nodeX.get(u), nodeY.get(u), nodeX.get(v), nodeY.get(v), x, y);
    }

    private boolean isOn(int p, int x, int y) {
      int u = from.get(p);
      int v = to.get(p);
      return isBetween(nodeX.get(u), x, nodeX.get(v)) && isBetween(nodeY.get(u), y, nodeY.get(v))
          && sideOf(p, x, y) == 0;
    }

    /** Fills the path with the pieces that reach x: they alone tell what lies at its places. */
    void lookAtColumn(int x) {
      path.clear();
      for (int p = 0; p < pieces() && nodeX.get(from.get(p)) <= x; p++) {
        if (nodeX.get(to.get(p)) >= x) path.add(p);
      }
    }

    private int pieceOn(int x, int y) {
      for (int i = 0; i < path.count; i++) {
        if (isOn(path.get(i), x, y)) return path.get(i);
      }
      return -1;
    }

    /** The first piece straight below a place, seen from a hair to its left; -1 if there is none. */
    int pieceBelow(int x, int y) {
      int best = -1;
      for (int i = 0; i < path.count; i++) {
        int p = path.get(i);
        if (nodeX.get(from.get(p)) >= x || sideOf(p, x, y) <= 0) continue;
        if (best < 0 || isHigher(p, best, x)) best = p;
      }
      return best;
    }

    private boolean isHigher(int p, int q, int x) {
      long dx = (long) nodeX.get(to.get(p)) - nodeX.get(from.get(p));
      long dy = (long) nodeY.get(to.get(p)) - nodeY.get(from.get(p));
      long ex = (long) nodeX.get(to.get(q)) - nodeX.get(from.get(q));
      long ey = (long) nodeY.get(to.get(q)) - nodeY.get(from.get(q));
      long one = (nodeY.get(from.get(p)) * dx + (x - nodeX.get(from.get(p))) * dy) * ex;
      long two = (nodeY.get(from.get(q)) * ex + (x - nodeX.get(from.get(q))) * ey) * dx;
      return one != two ? one > two : dy * ex < ey * dx;
    }

    /** The face around a place of the column looked at that is on no piece. */
    int faceAround(int x, int y) {
      int below = pieceBelow(x, y);
      return below < 0 ? 0 : faces.wayFace.get(2 * below);
    }

    /** The face in which a place of the column looked at lies, or -1 less the piece on which it lies. */
    int find(int x, int y) {
      int on = pieceOn(x, y);
      return on >= 0 ? -1 - on : faceAround(x, y);
    }

    long valueAt(int x, int y) {
      if (!inBounds(x, y) || nodeAt(x, y) >= 0) return BLANK;
      int found = find(x, y);
      int least = found < 0 ? -1 : faces.leastA.get(found);
      return least < 0 ? BLANK : first.valueOf(least);
    }

    // A piece's places lie between its nodes in their order: what begins behind its
    // greater node does not meet it.
    int countStrays() {
      path.fill(pieces(), 0);
      for (int p = 0; p < pieces(); p++) {
        int last = to.get(p);
        for (int q = p + 1; q < pieces() && from.get(q) <= last; q++) {
          if (!clash(p, q)) continue;
          path.set(p, 1);
          path.set(q, 1);
        }
      }
      return aboveNothing(path) + strayNodes();
    }

    private boolean clash(int p, int q) {
      int a = from.get(p);
      int b = to.get(p);
      int c = from.get(q);
      int d = to.get(q);
      if (Math.max(nodeY.get(a), nodeY.get(b)) < Math.min(nodeY.get(c), nodeY.get(d))) return false;
      if (Math.max(nodeY.get(c), nodeY.get(d)) < Math.min(nodeY.get(a), nodeY.get(b))) return false;
      if (isInner(p, c) || isInner(p, d) || isInner(q, a) || isInner(q, b)) return true;
      long one = sideOf(p, nodeX.get(c), nodeY.get(c));
      long two = sideOf(p, nodeX.get(d), nodeY.get(d));
      long three = sideOf(q, nodeX.get(a), nodeY.get(a));
      long four = sideOf(q, nodeX.get(b), nodeY.get(b));
      return Long.signum(one) * Long.signum(two) < 0 && Long.signum(three) * Long.signum(four) < 0;
    }

    private boolean isInner(int p, int n) {
      return n != from.get(p) && n != to.get(p) && isOn(p, nodeX.get(n), nodeY.get(n));
    }

    private int strayNodes() {
      path.fill(nodes(), 0);
      for (int p = 0; p < pieces(); p++) {
        int last = to.get(p);
        for (int n = from.get(p) + 1; n < last; n++) {
          if (isOn(p, nodeX.get(n), nodeY.get(n))) path.set(n, 1);
        }
      }
      return aboveNothing(path);
    }
  }

  /** What pieces leave of the plane, and what covers it. */
  private static final class Faces {
    int count;
    final Ints wayFace = new Ints();
    final Ints rings = new Ints();
    final Ints ways = new Ints();
    final Ints coverA = new Ints();
    final Ints coverB = new Ints();
    final Ints leastA = new Ints();
    final Ints leastB = new Ints();
    private Laying land;
    private long[] areas = new long[16];
    private long[] cycleAreas = new long[16];
    private final Ints cycleOf = new Ints();
    private final Ints cycleKeys = new Ints();
    private final Ints cycleFaces = new Ints();
    private final Ints heads = new Ints();
    private final Ints nexts = new Ints();
    private final Ints tree = new Ints();
    private final Ints treeWays = new Ints();
    private final Ints covered = new Ints();
    private final Ints odd = new Ints();

    void build(Laying of) {
      land = of;
      int bound = 2 * land.pieces();
      cycleOf.fill(bound, -1);
      cycleKeys.clear();
      for (int w = 0; w < bound; w++) {
        if (cycleOf.get(w) < 0) trace(w, bound);
      }
      numberFaces();
      tally();
      growTree();
      coverFaces();
    }

    long area2Of(int f) {
      return f >= 0 && f < count ? areas[f] : 0;
    }

    private void trace(int start, int bound) {
      int cycle = cycleKeys.count;
      int least = NODE_KEY * NODE_KEY;
      long area = 0;
      int w = start;
      for (int k = 0; k < bound && cycleOf.get(w) < 0; k++) {
        cycleOf.set(w, cycle);
        area += turnArea2(w);
        least = Math.min(least, land.tail(w) * NODE_KEY + land.tail(w ^ 1));
        w = land.follow(w);
      }
      cycleAreas = withRoom(cycleAreas, cycle + 1);
      cycleAreas[cycle] = area;
      cycleKeys.add(least);
    }

    private long turnArea2(int w) {
      int a = land.tail(w);
      int b = land.tail(w ^ 1);
      return (long) land.nodeX.get(a) * land.nodeY.get(b) - (long) land.nodeX.get(b) * land.nodeY.get(a);
    }

    // A cycle with AREA2 above 0 is a rim. Any other one goes round pieces that hang
    // together; what lies below their least node was begun by a lesser one, so by its
    // turn the face there is known.
    private void numberFaces() {
      int n = cycleKeys.count;
      long[] keys = land.keysFor(n);
      for (int c = 0; c < n; c++) keys[c] = ((long) cycleKeys.get(c) << 20) | c;
      sort(keys, n);
      cycleFaces.fill(n, 0);
      count = 1;
      for (int i = 0; i < n; i++) {
        int c = (int) (keys[i] & 0xFFFFF);
        if (cycleAreas[c] <= 0) continue;
        cycleFaces.set(c, count);
        count++;
      }
      for (int i = 0; i < n; i++) {
        int c = (int) (keys[i] & 0xFFFFF);
        if (cycleAreas[c] <= 0) cycleFaces.set(c, faceAround(cycleKeys.get(c) / NODE_KEY));
      }
    }

    private int faceAround(int node) {
      int x = land.nodeX.get(node);
      land.lookAtColumn(x);
      int below = land.pieceBelow(x, land.nodeY.get(node));
      return below < 0 ? 0 : cycleFaces.get(cycleOf.get(2 * below));
    }

    private void tally() {
      rings.fill(count, 0);
      ways.fill(count, 0);
      areas = withRoom(areas, count);
      Arrays.fill(areas, 0);
      for (int c = 0; c < cycleKeys.count; c++) {
        int f = cycleFaces.get(c);
        rings.plus(f, 1);
        if (f >= 0 && f < areas.length) areas[f] += cycleAreas[c];
      }
      wayFace.fill(cycleOf.count, 0);
      for (int w = 0; w < cycleOf.count; w++) {
        wayFace.set(w, cycleFaces.get(cycleOf.get(w)));
        ways.plus(wayFace.get(w), 1);
      }
    }

    /** A tree of faces from the outside on, each with the way that has its parent to the right. */
    private void growTree() {
      int many = wayFace.count;
      heads.fill(count, -1);
      nexts.fill(many, -1);
      for (int w = 0; w < many; w++) {
        nexts.set(w, heads.get(wayFace.get(w)));
        heads.set(wayFace.get(w), w);
      }
      treeWays.fill(count, -1);
      tree.clear();
      tree.add(0);
      for (int i = 0; i < count && i < tree.count; i++) {
        int w = heads.get(tree.get(i));
        for (int k = 0; k < many && w >= 0; k++) {
          int beyond = wayFace.get(w ^ 1);
          if (beyond > 0 && treeWays.get(beyond) < 0) {
            treeWays.set(beyond, w ^ 1);
            tree.add(beyond);
          }
          w = nexts.get(w);
        }
      }
    }

    private void coverFaces() {
      coverA.fill(count, 0);
      coverB.fill(count, 0);
      leastA.fill(count, -1);
      leastB.fill(count, -1);
      covered.fill(count, 0);
      odd.fill(land.pieces(), 0);
      int numbers = land.first.numbers();
      for (int f = 0; f < numbers; f++) {
        if (land.first.kindOf(f) == AREA) cover(f, f, coverA, leastA);
      }
      for (int f = 0; f < land.second.numbers(); f++) {
        if (land.second.kindOf(f) == AREA) cover(numbers + f, f, coverB, leastB);
      }
    }

    private void cover(int slot, int f, Ints cover, Ints least) {
      int start = land.slotSteps.get(slot);
      int stop = land.slotSteps.get(slot + 1);
      for (int k = start; k < stop; k++) {
        int p = land.stepPieces.get(k);
        odd.set(p, 1 - odd.get(p));
      }
      for (int i = 1; i < tree.count; i++) {
        int g = tree.get(i);
        int w = treeWays.get(g);
        int is = covered.get(wayFace.get(w ^ 1)) ^ odd.get(w >> 1);
        covered.set(g, is);
        cover.plus(g, is);
        if (is == 1 && least.get(g) < 0) least.set(g, f);
      }
      for (int k = start; k < stop; k++) odd.set(land.stepPieces.get(k), 0);
    }

    private boolean isCovered(int side, int f) {
      return (side == 0 ? coverA : coverB).get(f) > 0;
    }

    private Feature loneFeature(int side) {
      return side == 0 ? land.first.get(0) : land.second.get(0);
    }

    private int kindOfSide(int side) {
      return side == 0 ? land.first.kindOf(0) : land.second.kindOf(0);
    }

    /** Which part a face is of the one feature of layer a (side 0) or b (side 1); lines and points cover none. */
    int partOfFace(int side, int f) {
      return isCovered(side, f) ? INSIDE : OUTSIDE;
    }

    int partOfPiece(int side, int p) {
      if (kindOfSide(side) == LINE) return (side == 0 ? land.goA : land.goB).get(p) > 0 ? INSIDE : OUTSIDE;
      boolean left = isCovered(side, wayFace.get(2 * p));
      boolean right = isCovered(side, wayFace.get(2 * p + 1));
      if (left != right) return BORDER;
      return left ? INSIDE : OUTSIDE;
    }

    int partOfNode(int side, int n) {
      Feature it = loneFeature(side);
      if (it == null) return OUTSIDE;
      int x = land.nodeX.get(n);
      int y = land.nodeY.get(n);
      if (it.kind == POINT) return it.indexOf(0, 0) == 0 && it.xs[0] == x && it.ys[0] == y ? INSIDE : OUTSIDE;
      if (it.kind == LINE && (it.endsAt(x, y) & 1) == 1) return BORDER;
      int part = OUTSIDE;
      for (int i = land.fanStarts.get(n); i < land.fanStarts.get(n + 1); i++) {
        int next = partOfPiece(side, land.fan.get(i) >> 1);
        if (next == BORDER) return BORDER;
        part = Math.min(part, next);
      }
      // No piece tells of a lone node: the face around it does.
      if (land.degree(n) > 0) return part;
      land.lookAtColumn(x);
      return partOfFace(side, land.faceAround(x, y));
    }
  }

  /** Overlays: chosen faces joined to wholes, and their borders cut into rings. */
  private static final class Joiner {
    private Laying land;
    private final Ints wholes = new Ints();
    private final Ints used = new Ints();
    private final Ints walk = new Ints();
    private final Ints walkPlaces = new Ints();
    private final Ints ringNodes = new Ints();
    private final Ints ringStarts = new Ints();
    private final Ints ringWholes = new Ints();
    private final Ints ringRims = new Ints();

    /** Fills the draft with the overlay's features; false if there is no room. */
    boolean join(Laying of, int way, boolean split, Draft draft) {
      land = of;
      chooseFaces(way);
      joinFaces(split);
      walkBorders();
      return draw(split, draft);
    }

    private void chooseFaces(int way) {
      wholes.clear();
      for (int f = 0; f < land.faces.count; f++) {
        boolean a = land.faces.coverA.get(f) > 0;
        boolean b = land.faces.coverB.get(f) > 0;
        boolean chosen = way == 0 ? a || b : way == 1 ? a && b : way == 2 ? a && !b : a != b;
        wholes.add(chosen ? f : -1);
      }
    }

    private void joinFaces(boolean split) {
      for (int p = 0; p < land.pieces(); p++) {
        int left = land.faces.wayFace.get(2 * p);
        int right = land.faces.wayFace.get(2 * p + 1);
        if (wholes.get(left) < 0 || wholes.get(right) < 0 || split && !isAlike(left, right)) continue;
        int a = wholeOf(left);
        int b = wholeOf(right);
        wholes.set(Math.max(a, b), Math.min(a, b));
      }
      for (int f = 0; f < wholes.count; f++) {
        if (wholes.get(f) >= 0) wholes.set(f, wholeOf(f));
      }
    }

    private boolean isAlike(int f, int g) {
      Faces faces = land.faces;
      return faces.leastA.get(f) == faces.leastA.get(g) && faces.leastB.get(f) == faces.leastB.get(g);
    }

    private int wholeOf(int f) {
      int at = f;
      for (int n = 0; n < wholes.count && wholes.get(at) != at; n++) {
        wholes.set(at, wholes.get(wholes.get(at)));
        at = wholes.get(at);
      }
      return at;
    }

    private int wholeLeft(int w) {
      return wholes.get(land.faces.wayFace.get(w));
    }

    private void walkBorders() {
      int ways = 2 * land.pieces();
      used.fill(ways, 0);
      walkPlaces.fill(land.nodes(), -1);
      ringNodes.clear();
      ringStarts.clear();
      ringWholes.clear();
      ringRims.clear();
      for (int w = 0; w < ways; w++) {
        int whole = wholeLeft(w);
        if (whole >= 0 && whole != wholeLeft(w ^ 1)) walkRound(w, whole);
      }
    }

    private void walkRound(int start, int whole) {
      walk.clear();
      int w = start;
      for (int k = 0; k < used.count && used.get(w) == 0; k++) {
        used.set(w, 1);
        walkPlaces.set(land.tail(w), walk.count);
        walk.add(w);
        int met = walkPlaces.get(land.tail(w ^ 1));
        if (met >= 0) cutRing(met, whole);
        w = nextOnBorder(w, whole);
      }
    }

    private int nextOnBorder(int w, int whole) {
      int many = land.degree(land.tail(w ^ 1));
      for (int k = 1; k <= many; k++) {
        int next = land.clockwise(w ^ 1, k);
        if (wholeLeft(next ^ 1) != whole) return next;
      }
      return w ^ 1;
    }

    /** Takes the ways from a place of the walk on out of it, as a ring from its least corner on. */
    private void cutRing(int met, int whole) {
      int many = walk.count - met;
      int least = 0;
      long area = 0;
      for (int i = 0; i < many; i++) {
        int w = walk.get(met + i);
        walkPlaces.set(land.tail(w), -1);
        if (land.tail(w) < land.tail(walk.get(met + least))) least = i;
        area += land.faces.turnArea2(w);
      }
      ringStarts.add(ringNodes.count);
      ringWholes.add(whole);
      ringRims.add(area > 0 ? 1 : 0);
      for (int i = 0; i < many; i++) {
        int before = walk.get(met + (least + i + many - 1) % many);
        int behind = walk.get(met + (least + i) % many);
        if (isCorner(before, behind)) ringNodes.add(land.tail(behind));
      }
      walk.cut(met);
    }

    private boolean isCorner(int before, int behind) {
      int a = land.tail(before);
      int b = land.tail(behind);
      int c = land.tail(behind ^ 1);
      return side(land.nodeX.get(a), land.nodeY.get(a), land.nodeX.get(b), land.nodeY.get(b),
          land.nodeX.get(c), land.nodeY.get(c)) != 0;
    }

    // No two rings leave a node in one direction, so the first two corners tell
    // the order of all rings.
    private long[] sortedRings() {
      long[] keys = land.keysFor(ringStarts.count);
      for (int r = 0; r < ringStarts.count; r++) {
        int start = ringStarts.get(r);
        keys[r] = ((long) (ringNodes.get(start) * NODE_KEY + ringNodes.get(start + 1)) << 20) | r;
      }
      sort(keys, ringStarts.count);
      return keys;
    }

    private boolean draw(boolean split, Draft draft) {
      draft.clear();
      long[] keys = sortedRings();
      for (int i = 0; i < ringStarts.count; i++) {
        int rim = (int) (keys[i] & 0xFFFFF);
        if (ringRims.get(rim) == 0) continue;
        if (draft.features() >= NUMBERS) return false;
        int whole = ringWholes.get(rim);
        draft.beginFeature(AREA, split ? valueOf(whole) : 0);
        drawRing(rim, draft);
        for (int j = 0; j < ringStarts.count; j++) {
          int hole = (int) (keys[j] & 0xFFFFF);
          if (ringWholes.get(hole) == whole && ringRims.get(hole) == 0) drawRing(hole, draft);
        }
        if (draft.placesOf(draft.features() - 1) > PLACES_IN_ONE) return false;
      }
      return true;
    }

    private void drawRing(int ring, Draft draft) {
      int start = ringStarts.get(ring);
      int stop = ring + 1 < ringStarts.count ? ringStarts.get(ring + 1) : ringNodes.count;
      draft.beginRow();
      for (int i = start; i <= stop; i++) {
        int node = ringNodes.get(i < stop ? i : start);
        draft.addPlace(land.nodeX.get(node), land.nodeY.get(node));
      }
    }

    private int valueOf(int face) {
      int a = land.faces.leastA.get(face);
      return a >= 0 ? land.first.valueOf(a) : land.second.valueOf(land.faces.leastB.get(face));
    }
  }

  /** Roads, barred turns, and the best way. */
  private static final class Router {
    private static final int HEAVIEST = 1000000;
    private static final int NO_ROAD = HEAVIEST + 1;

    final Ints found = new Ints();
    private final Ints bars = new Ints();
    private final Ints barNodes = new Ints();
    private Laying land;
    private final Ints weights = new Ints();
    private final Ints hops = new Ints();
    private final Ints heap = new Ints();
    private long[] costs = new long[16];

    void forget() {
      found.clear();
    }

    int barTurn(Ints spots) {
      for (int i = 0; i + 5 < bars.count; i += 6) {
        boolean same = true;
        for (int k = 0; k < 6; k++) same = same && bars.get(i + k) == spots.get(k);
        if (same) return bars.count / 6;
      }
      if (bars.count / 6 >= BARS) return NO_ROOM;
      for (int k = 0; k < 6; k++) bars.add(spots.get(k));
      return bars.count / 6;
    }

    long seek(Laying of, Ints spots) {
      land = of;
      weighRoads();
      int start = land.nodeAt(spots.get(0), spots.get(1));
      int goal = land.nodeAt(spots.get(2), spots.get(3));
      if (!isOnRoad(start) || !isOnRoad(goal)) return FAULT;
      if (start == goal) {
        found.add(start);
        return 0;
      }
      findBarNodes();
      reckonBack(goal);
      return walkFrom(start, goal);
    }

    private void weighRoads() {
      weights.fill(land.pieces(), NO_ROAD);
      for (int f = 0; f < land.first.numbers(); f++) {
        if (land.first.kindOf(f) != LINE) continue;
        int value = Math.min(HEAVIEST, land.first.valueOf(f));
        for (int k = land.slotSteps.get(f); k < land.slotSteps.get(f + 1); k++) {
          int p = land.stepPieces.get(k);
          weights.set(p, Math.min(weights.get(p), value));
        }
      }
    }

    private boolean isOnRoad(int node) {
      if (node < 0) return false;
      for (int i = land.fanStarts.get(node); i < land.fanStarts.get(node + 1); i++) {
        if (weights.get(land.fan.get(i) >> 1) != NO_ROAD) return true;
      }
      return false;
    }

    private boolean isOpen(int w) {
      int weight = weights.get(w >> 1);
      return weight >= 1 && weight <= HEAVIEST;
    }

    private void findBarNodes() {
      barNodes.clear();
      for (int i = 0; i + 5 < bars.count; i += 6) {
        int a = land.nodeAt(bars.get(i), bars.get(i + 1));
        int b = land.nodeAt(bars.get(i + 2), bars.get(i + 3));
        int c = land.nodeAt(bars.get(i + 4), bars.get(i + 5));
        if (a < 0 || b < 0 || c < 0) continue;
        barNodes.add(a);
        barNodes.add(b);
        barNodes.add(c);
      }
    }

    private boolean isBarred(int w, int next) {
      int a = land.tail(w);
      int b = land.tail(next);
      int c = land.tail(next ^ 1);
      for (int i = 0; i + 2 < barNodes.count; i += 3) {
        if (barNodes.get(i + 1) == b && barNodes.get(i) == a && barNodes.get(i + 2) == c) return true;
      }
      return false;
    }

    private long costOf(int w) {
      int a = land.tail(w);
      int b = land.tail(w ^ 1);
      long dx = (long) land.nodeX.get(b) - land.nodeX.get(a);
      long dy = (long) land.nodeY.get(b) - land.nodeY.get(a);
      return distance(dx, dy) * weights.get(w >> 1);
    }

    /**
     * For each way along an open road what it and the best rest to the goal cost, and how many
     * roads that is (0: not known). The cheapest one taken from the heap tells the best rest of
     * every way that may turn into it and has none yet.
     */
    private void reckonBack(int goal) {
      int ways = 2 * land.pieces();
      hops.fill(ways, 0);
      costs = withRoom(costs, ways);
      heap.clear();
      for (int i = land.fanStarts.get(goal); i < land.fanStarts.get(goal + 1); i++) {
        int w = land.fan.get(i) ^ 1;
        if (isOpen(w)) know(w, costOf(w), 1);
      }
      for (int k = 0; k < ways && heap.count > 0; k++) {
        int next = takeLeast();
        int node = land.tail(next);
        for (int i = land.fanStarts.get(node); i < land.fanStarts.get(node + 1); i++) {
          int w = land.fan.get(i) ^ 1;
          if (hops.get(w) > 0 || !isOpen(w) || isBarred(w, next)) continue;
          know(w, costOf(w) + costs[next], hops.get(next) + 1);
        }
      }
    }

    private void know(int w, long cost, int roads) {
      costs[w] = cost;
      hops.set(w, roads);
      heap.add(w);
      int i = heap.count - 1;
      for (int up = (i - 1) / 2; i > 0 && isLess(w, heap.get(up)); up = (i - 1) / 2) {
        heap.set(i, heap.get(up));
        heap.set(up, w);
        i = up;
      }
    }

    private int takeLeast() {
      int least = heap.get(0);
      int w = heap.get(heap.count - 1);
      heap.cut(heap.count - 1);
      heap.set(0, w);
      int i = 0;
      for (int child = 1; child < heap.count; child = 2 * i + 1) {
        if (child + 1 < heap.count && isLess(heap.get(child + 1), heap.get(child))) child++;
        if (!isLess(heap.get(child), w)) break;
        heap.set(i, heap.get(child));
        heap.set(child, w);
        i = child;
      }
      return least;
    }

    private boolean isLess(int v, int w) {
      return costs[v] != costs[w] ? costs[v] < costs[w] : hops.get(v) < hops.get(w);
    }

    private long walkFrom(int start, int goal) {
      int w = bestFrom(start, -1);
      if (w < 0) return NOTHING;
      long cost = costs[w];
      found.add(start);
      for (int k = 0; k < hops.count && w >= 0; k++) {
        int node = land.tail(w ^ 1);
        found.add(node);
        w = node == goal ? -1 : bestFrom(node, w);
      }
      return cost;
    }

    /** The best way on from a node to which another way came (-1: none); of equal ones to the least node. */
    private int bestFrom(int node, int came) {
      int best = -1;
      for (int i = land.fanStarts.get(node); i < land.fanStarts.get(node + 1); i++) {
        int w = land.fan.get(i);
        if (hops.get(w) == 0 || came >= 0 && isBarred(came, w)) continue;
        if (best < 0 || isLess(w, best)) best = w;
        else if (!isLess(best, w) && land.tail(w ^ 1) < land.tail(best ^ 1)) best = w;
      }
      return best;
    }
  }

  /** Cells of ints; BLANK is above them all. */
  private static final class Raster {
    final int width;
    final int height;
    final long[] cells;

    Raster(int width, int height) {
      this.width = width;
      this.height = height;
      cells = new long[Math.max(0, width * height)];
      Arrays.fill(cells, BLANK);
    }

    boolean isLike(Raster other) {
      return width == other.width && height == other.height;
    }

    void put(int i, int j, long value) {
      if (i >= 0 && i < width && j >= 0 && j < height) cells[j * width + i] = value;
    }

    long look(int i, int j) {
      return i >= 0 && i < width && j >= 0 && j < height ? cells[j * width + i] : NO_CELL;
    }

    int filled() {
      int sum = 0;
      for (int c = 0; c < cells.length; c++) {
        if (cells[c] != BLANK) sum++;
      }
      return sum;
    }

    private boolean isBarred(int c) {
      return cells[c] < 0 || cells[c] > 1000;
    }

    /** SPREAD over these costs: sums sink, cell by cell forth and back, until none does. */
    Raster spreadFrom(Raster seeds) {
      Raster sums = new Raster(width, height);
      for (int c = 0; c < cells.length && c < seeds.cells.length; c++) {
        if (seeds.cells[c] != BLANK && !isBarred(c)) sums.cells[c] = 0;
      }
      boolean sinks = true;
      for (int round = 0; round <= cells.length && sinks; round++) {
        sinks = false;
        for (int c = 0; c < cells.length; c++) sinks = stepFrom(c, sums) || sinks;
        for (int c = cells.length - 1; c >= 0; c--) sinks = stepFrom(c, sums) || sinks;
      }
      return sums;
    }

    /** Whether a step from a cell leads to a lesser sum somewhere. */
    private boolean stepFrom(int c, Raster sums) {
      if (width <= 0 || sums.cells[c] == BLANK) return false;
      int i = c % width;
      int j = c / width;
      boolean sinks = false;
      for (int dx = -1; dx <= 1; dx++) {
        for (int dy = -1; dy <= 1; dy++) {
          if (look(i + dx, j + dy) == NO_CELL) continue;
          int next = (j + dy) * width + i + dx;
          if (isBarred(next)) continue;
          long sum = sums.cells[c] + (cells[c] + cells[next]) * (dx != 0 && dy != 0 ? 7 : 5);
          if (sum >= sums.cells[next]) continue;
          sums.cells[next] = sum;
          sinks = true;
        }
      }
      return sinks;
    }
  }

  /** Algebra texts: read into steps of a stack of rasters, then worked out part by part for all cells. */
  private static final class Formula {
    private static final int DEEPEST = 40;
    // A level of depth leaves at most four rows waiting.
    private static final int ROWS = 5 * DEEPEST;
    private static final int NUMBER = 0;
    private static final int RASTER = 1;
    private static final int MINUS = 2;
    private static final int ABS = 3;
    private static final int IS_BLANK = 4;
    private static final int SUM = 5;
    private static final int TOP = 6;
    private static final int LOW = 7;
    private static final int AT = 8;
    private static final int ADD = 9;
    private static final int TAKE = 10;
    private static final int TIMES = 11;
    private static final int DIVIDE = 12;
    private static final int REST = 13;
    private static final int LESS = 14;
    private static final int LESS_SAME = 15;
    private static final int MORE = 16;
    private static final int MORE_SAME = 17;
    private static final int SAME = 18;
    private static final int UNLIKE = 19;
    private static final int MIN = 20;
    private static final int MAX = 21;
    private static final int OR = 22;
    private static final int CHOOSE = 23;

    private Tray tray;
    private Raster[] rasters;
    private int rasterCount;
    private Raster like;
    private final Ints code = new Ints();
    private final long[][] rows = new long[ROWS][];
    private long[] spareRow = new long[0];
    private int height;

    boolean parse(Tray text, Raster[] known, int knownCount) {
      tray = text;
      rasters = known;
      rasterCount = knownCount;
      like = null;
      code.clear();
      if (!readChoice(1)) return false;
      if (tray.skipBlanks() >= 0) return tray.failAt(tray.at);
      return like != null || tray.failAt(tray.length);
    }

    private void write(int step, int a, int b) {
      code.add(step);
      code.add(a);
      code.add(b);
    }

    private boolean goDeeper(int depth) {
      if (depth >= DEEPEST) return tray.failAt(tray.at);
      tray.at++;
      return true;
    }

    private boolean readChoice(int depth) {
      if (!readComparison(depth)) return false;
      if (tray.skipBlanks() != '?') return true;
      if (!goDeeper(depth) || !readChoice(depth + 1)) return false;
      if (!tray.take(':') || !readChoice(depth + 1)) return false;
      write(CHOOSE, 0, 0);
      return true;
    }

    private boolean readComparison(int depth) {
      if (!readSum(depth)) return false;
      int c = tray.skipBlanks();
      if (c != '<' && c != '>' && c != '=' && c != '#') return true;
      tray.at++;
      int step = c == '<' ? LESS : c == '>' ? MORE : c == '=' ? SAME : UNLIKE;
      if ((c == '<' || c == '>') && tray.skipBlanks() == '=') {
        tray.at++;
        step++;
      }
      if (!readSum(depth)) return false;
      write(step, 0, 0);
      return true;
    }

    // Sums and products in one, to keep few calls open when texts are deep.
    private boolean readSum(int depth) {
      int waiting = -1;
      for (int n = 0; n <= tray.length; n++) {
        if (!readUnit(depth)) return false;
        int c = tray.skipBlanks();
        for (int m = 0; m <= tray.length && (c == '*' || c == '/' || c == '%'); m++) {
          tray.at++;
          if (!readUnit(depth)) return false;
          write(c == '*' ? TIMES : c == '/' ? DIVIDE : REST, 0, 0);
          c = tray.skipBlanks();
        }
        if (waiting >= 0) write(waiting, 0, 0);
        if (c != '+' && c != '-') return true;
        waiting = c == '+' ? ADD : TAKE;
        tray.at++;
      }
      return tray.failAt(tray.at);
    }

    private boolean readUnit(int depth) {
      int c = tray.skipBlanks();
      if (c == '-') {
        if (!goDeeper(depth) || !readUnit(depth + 1)) return false;
        write(MINUS, 0, 0);
        return true;
      }
      if (c == '(') return goDeeper(depth) && readChoice(depth + 1) && tray.take(')');
      if (isLetter(c)) return readWord(depth);
      if (!tray.takeNumber(0, NINE_DIGITS, false)) return false;
      write(NUMBER, tray.number, 0);
      return true;
    }

    private static boolean isLetter(int c) {
      return c >= 'a' && c <= 'z';
    }

    private boolean readWord(int depth) {
      int start = tray.at;
      int c = tray.look();
      for (int n = 0; n <= tray.length && isLetter(tray.look()); n++) tray.at++;
      int letters = tray.at - start;
      if (letters == 1 && c <= 'j') return useRaster(c - 'a', start);
      int name = nameOf(start, letters);
      if (name < 0 || tray.skipBlanks() != '(') return tray.failAt(start);
      if (!goDeeper(depth) || !readChoice(depth + 1)) return false;
      if (name >= MIN && (!tray.take(',') || !readChoice(depth + 1))) return false;
      return finishCall(name);
    }

    private boolean useRaster(int r, int start) {
      if (r < 0 || r >= rasterCount || r >= rasters.length) return tray.failAt(start);
      if (like == null) like = rasters[r];
      if (!like.isLike(rasters[r])) return tray.failAt(start);
      write(RASTER, r, 0);
      return true;
    }

    private int nameOf(int start, int letters) {
      if (isWord("min", start, letters)) return MIN;
      if (isWord("max", start, letters)) return MAX;
      if (isWord("or", start, letters)) return OR;
      if (isWord("abs", start, letters)) return ABS;
      if (isWord("blank", start, letters)) return IS_BLANK;
      if (isWord("sum", start, letters)) return SUM;
      if (isWord("top", start, letters)) return TOP;
      if (isWord("low", start, letters)) return LOW;
      return isWord("at", start, letters) ? AT : -1;
    }

    private boolean isWord(String word, int start, int letters) {
      if (word.length() != letters || start < 0 || start + letters > tray.length) return false;
      for (int i = 0; i < letters; i++) {
        if (tray.text[start + i] != word.charAt(i)) return false;
      }
      return true;
    }

    private boolean finishCall(int name) {
      int a = 0;
      int b = 0;
      if (name >= SUM && name <= AT) {
        if (!(name == AT ? readNumber(-50, 50, true) : readNumber(0, 3, false))) return false;
        a = tray.number;
      }
      if (name == AT) {
        if (!readNumber(-50, 50, true)) return false;
        b = tray.number;
      }
      if (!tray.take(')')) return false;
      write(name, a, b);
      return true;
    }

    private boolean readNumber(int low, int high, boolean signed) {
      if (!tray.take(',')) return false;
      tray.skipBlanks();
      return tray.takeNumber(low, high, signed);
    }

    /** The raster of the text that was parsed last, without a fault. */
    Raster run() {
      if (like == null) return new Raster(0, 0);
      Raster made = new Raster(like.width, like.height);
      height = 0;
      for (int i = 0; i + 2 < code.count; i += 3) step(code.get(i), code.get(i + 1), code.get(i + 2));
      if (height == 1) System.arraycopy(rows[0], 0, made.cells, 0, made.cells.length);
      return made;
    }

    private static long[] rowFor(long[] row, int many) {
      if (row == null) return new long[many];
      return row.length < many ? new long[CELLS] : row;
    }

    private void step(int step, int a, int b) {
      int many = like.cells.length;
      if (step <= RASTER) {
        if (height >= ROWS) return;
        rows[height] = rowFor(rows[height], many);
        if (step == NUMBER) Arrays.fill(rows[height], a);
        else if (a >= 0 && a < rasterCount) System.arraycopy(rasters[a].cells, 0, rows[height], 0, many);
        height++;
      } else if (step < ADD) {
        if (height < 1) return;
        if (step <= IS_BLANK) changeCells(step, rows[height - 1], many);
        else lookAround(step, a, b);
      } else if (step < CHOOSE) {
        if (height < 2) return;
        height--;
        long[] row = rows[height - 1];
        for (int c = 0; c < many; c++) row[c] = combined(step, row[c], rows[height][c]);
      } else {
        if (height < 3) return;
        height -= 2;
        choose(rows[height - 1], many);
      }
    }

    private static void changeCells(int step, long[] row, int many) {
      for (int c = 0; c < many && c < row.length; c++) {
        if (step == IS_BLANK) row[c] = row[c] == BLANK ? 1 : 0;
        else if (row[c] != BLANK && (step == MINUS || row[c] < 0)) row[c] = -(int) row[c];
      }
    }

    private void choose(long[] row, int many) {
      for (int c = 0; c < many && c < row.length; c++) {
        if (row[c] != BLANK) row[c] = row[c] != 0 ? rows[height][c] : rows[height + 1][c];
      }
    }

    private static long combined(int step, long x, long y) {
      if (step == OR) return x == BLANK ? y : x;
      if (x == BLANK || y == BLANK) return BLANK;
      int a = (int) x;
      int b = (int) y;
      switch (step) {
        case ADD: return a + b;
        case TAKE: return a - b;
        case TIMES: return a * b;
        case DIVIDE: return b == 0 ? BLANK : a / b;
        case REST: return b == 0 ? BLANK : a % b;
        case LESS: return a < b ? 1 : 0;
        case LESS_SAME: return a <= b ? 1 : 0;
        case MORE: return a > b ? 1 : 0;
        case MORE_SAME: return a >= b ? 1 : 0;
        case SAME: return a == b ? 1 : 0;
        case UNLIKE: return a != b ? 1 : 0;
        case MIN: return Math.min(a, b);
        default: return Math.max(a, b);
      }
    }

    private void lookAround(int step, int a, int b) {
      spareRow = rowFor(spareRow, like.cells.length);
      long[] row = rows[height - 1];
      for (int j = 0; j < like.height; j++) {
        for (int i = 0; i < like.width; i++) {
          long seen = step == AT ? cellAt(row, i + a, j + b) : gathered(step, row, i, j, a);
          spareRow[j * like.width + i] = seen;
        }
      }
      rows[height - 1] = spareRow;
      spareRow = row;
    }

    private long cellAt(long[] row, int i, int j) {
      return i >= 0 && i < like.width && j >= 0 && j < like.height ? row[j * like.width + i] : BLANK;
    }

    private long gathered(int step, long[] row, int i, int j, int k) {
      long sum = BLANK;
      for (int y = j - k; y <= j + k; y++) {
        for (int x = i - k; x <= i + k; x++) {
          long seen = cellAt(row, x, y);
          if (seen == BLANK) continue;
          if (sum == BLANK) sum = seen;
          else if (step == SUM) sum = (int) sum + (int) seen;
          else sum = step == TOP ? Math.max(sum, seen) : Math.min(sum, seen);
        }
      }
      return sum;
    }
  }
}
