import java.util.Arrays;

/**
 * A coder for bytes: several models predict each bit, weights that learn mix
 * their predictions, and an arithmetic coder writes the bits.
 *
 * All arrays are made with the object and used again, so that no call makes one.
 */
public final class BitMixer {
  private static final int TEXT_LIMIT = 80;
  private static final int FEED_LIMIT = 8;
  private static final int BITS = 8;
  private static final int BYTE_LIMIT = 256;

  private static final int MODEL_LIMIT = 6;
  private static final int ORDER_MOST = 3;
  private static final int RATE_LEAST = 2;
  private static final int RATE_MOST = 7;
  private static final int T_LEAST = 4;
  private static final int T_MOST = 9;
  private static final int TABLE_LIMIT = 1 << T_MOST;

  private static final int ONE = 4096;
  private static final int HALF = 2048;
  private static final int WEIGHT_FIRST = 256;
  private static final int WEIGHT_MOST = 60000;

  private static final int WORD_BYTES = 4;
  private static final long WORD_MASK = 0xFFFFFFFFL;
  /** A bit moves at most four bytes out of the interval, and the end adds four. */
  private static final int CODE_LIMIT = TEXT_LIMIT * BITS * WORD_BYTES + WORD_BYTES;

  private final ByteRow text;
  private final ByteRow encoded;
  private final ByteRow decoded;
  private final Predictor predictor;
  private final Interval interval;

  public BitMixer() {
    text = new ByteRow(TEXT_LIMIT);
    encoded = new ByteRow(CODE_LIMIT);
    decoded = new ByteRow(TEXT_LIMIT);
    predictor = new Predictor();
    interval = new Interval();
  }

  // ---- models

  public int addModel(int order, int rate, int t) throws IllegalArgumentException, IllegalStateException {
    if (order < 0 || order > ORDER_MOST) {
      throw new IllegalArgumentException("order is not 0 to 3");
    }
    requireRate(rate);
    if (t < T_LEAST || t > T_MOST) {
      throw new IllegalArgumentException("t is not 4 to 9");
    }
    if (predictor.modelTotal >= MODEL_LIMIT) {
      throw new IllegalStateException("there are 6 models");
    }
    predictor.takeModel(order, rate, t);
    return predictor.modelTotal - 1;
  }

  public int removeModel() throws IllegalStateException {
    if (predictor.modelTotal <= 0) {
      throw new IllegalStateException("there is no model");
    }
    predictor.dropModel();
    return predictor.modelTotal;
  }

  public int setRate(int model, int rate) throws IndexOutOfBoundsException, IllegalArgumentException {
    Model changed = requireModel(model);
    requireRate(rate);
    int before = changed.rate;
    changed.rate = rate;
    predictor.restart();
    return before;
  }

  public int modelCount() {
    return predictor.modelTotal;
  }

  // ---- text

  public int feed(long bytes, int many) throws IllegalArgumentException, IllegalStateException {
    if (many < 1 || many > FEED_LIMIT) {
      throw new IllegalArgumentException("many is not 1 to 8");
    }
    requireRoom(many);
    for (int left = many - 1; left >= 0; left--) {
      text.append((int) (bytes >>> (BITS * left)) & (BYTE_LIMIT - 1));
    }
    return text.count;
  }

  public int fill(int value, int many) throws IllegalArgumentException, IllegalStateException {
    requireByte(value);
    if (many < 1 || many > TEXT_LIMIT) {
      throw new IllegalArgumentException("many is not 1 to 80");
    }
    requireRoom(many);
    for (int done = 0; done < many; done++) {
      text.append(value);
    }
    return text.count;
  }

  public int cut(int many) throws IllegalArgumentException {
    return shorten(text, many);
  }

  public int size() {
    return text.count;
  }

  public int byteAt(int place) throws IndexOutOfBoundsException {
    return requirePlace(text, place);
  }

  // ---- the predictor

  public int reset() {
    int before = predictor.bitTotal;
    predictor.restart();
    return before;
  }

  public int observe(boolean isOne) {
    int mixture = predictor.mixture();
    predictor.learn(isOne, mixture);
    return quality(mixture, isOne);
  }

  public int mixed() {
    return predictor.mixture();
  }

  public int prediction(int model) throws IndexOutOfBoundsException {
    return requireModel(model).guess();
  }

  public int index(int model) throws IndexOutOfBoundsException {
    return requireModel(model).place;
  }

  public int counter(int model, int index) throws IndexOutOfBoundsException {
    Model asked = requireModel(model);
    if (index < 0 || index >= asked.tableSize()) {
      throw new IndexOutOfBoundsException("there is no such counter");
    }
    return asked.counters[index];
  }

  public int weight(int model, int phase) throws IndexOutOfBoundsException {
    Model asked = requireModel(model);
    if (phase < 0 || phase >= BITS) {
      throw new IndexOutOfBoundsException("phase is not 0 to 7");
    }
    return asked.weights[phase];
  }

  public int leader() {
    return predictor.heaviest();
  }

  public int collisions(int model) throws IndexOutOfBoundsException {
    return requireModel(model).collisionTotal;
  }

  public int history(int back) throws IndexOutOfBoundsException {
    if (back < 0 || back >= ORDER_MOST) {
      throw new IndexOutOfBoundsException("back is not 0 to 2");
    }
    return predictor.latest[back];
  }

  public int node() {
    return predictor.treeNode;
  }

  public int observed() {
    return predictor.bitTotal;
  }

  public long error() {
    return predictor.errorSum;
  }

  public double meanError() {
    if (predictor.bitTotal <= 0) {
      return 0.0;
    }
    return (double) predictor.errorSum / ((double) ONE * (double) predictor.bitTotal);
  }

  // ---- codes

  public int encode() {
    predictor.restart();
    interval.open();
    encoded.clear();
    for (int place = 0; place < text.count; place++) {
      encodeByte(text.at(place));
    }
    for (int done = 0; done < WORD_BYTES; done++) {
      encoded.append(interval.shift());
    }
    return encoded.count;
  }

  public int codeSize() {
    return encoded.count;
  }

  public int code(int position) throws IndexOutOfBoundsException {
    return requirePlace(encoded, position);
  }

  public int setCode(int position, int value) throws IndexOutOfBoundsException, IllegalArgumentException {
    int before = requirePlace(encoded, position);
    requireByte(value);
    encoded.put(position, value);
    return before;
  }

  public int cutCode(int many) throws IllegalArgumentException {
    return shorten(encoded, many);
  }

  public int decode(int many) throws IllegalArgumentException {
    if (many < 0 || many > TEXT_LIMIT) {
      throw new IllegalArgumentException("many is not 0 to 80");
    }
    predictor.restart();
    interval.open();
    interval.load(encoded);
    decoded.clear();
    for (int done = 0; done < many; done++) {
      decoded.append(decodeByte());
    }
    return differences();
  }

  public int outputSize() {
    return decoded.count;
  }

  public int output(int place) throws IndexOutOfBoundsException {
    return requirePlace(decoded, place);
  }

  public double ratio() {
    if (text.count <= 0) {
      return 0.0;
    }
    return (double) encoded.count / (double) text.count;
  }

  public long digest() {
    long d = digestModels(103L);
    d = digestBytes(d, text);
    d = d * 31 + predictor.treeNode;
    d = d * 31 + predictor.bitTotal;
    d = d * 31 + predictor.errorSum;
    d = digestBytes(d, encoded);
    return digestBytes(d, decoded);
  }

  // ---- what the face is made of

  private Model requireModel(int model) {
    if (model < 0 || model >= predictor.modelTotal) {
      throw new IndexOutOfBoundsException("there is no such model");
    }
    return predictor.models[model];
  }

  private static void requireRate(int rate) {
    if (rate < RATE_LEAST || rate > RATE_MOST) {
      throw new IllegalArgumentException("rate is not 2 to 7");
    }
  }

  private static void requireByte(int value) {
    if (value < 0 || value >= BYTE_LIMIT) {
      throw new IllegalArgumentException("value is not 0 to 255");
    }
  }

  private void requireRoom(int many) {
    if (many > TEXT_LIMIT - text.count) {
      throw new IllegalStateException("the text would have more than 80 bytes");
    }
  }

  private static int requirePlace(ByteRow row, int place) {
    if (!row.has(place)) {
      throw new IndexOutOfBoundsException("there is no such place");
    }
    return row.at(place);
  }

  private static int shorten(ByteRow row, int many) {
    if (many < 0 || many > row.count) {
      throw new IllegalArgumentException("many is negative, or greater than the size");
    }
    row.count -= many;
    return row.count;
  }

  private static int quality(int chance, boolean isOne) {
    return isOne ? chance : ONE - chance;
  }

  private void encodeByte(int value) {
    for (int bit = BITS - 1; bit >= 0; bit--) {
      boolean isOne = ((value >>> bit) & 1) == 1;
      int mixture = predictor.mixture();
      interval.narrow(isOne, interval.middle(mixture));
      for (int moved = 0; moved < WORD_BYTES && interval.isSettled(); moved++) {
        encoded.append(interval.shift());
      }
      predictor.learn(isOne, mixture);
    }
  }

  private int decodeByte() {
    int value = 0;
    for (int done = 0; done < BITS; done++) {
      int mixture = predictor.mixture();
      long middle = interval.middle(mixture);
      boolean isOne = interval.x <= middle;
      interval.narrow(isOne, middle);
      for (int moved = 0; moved < WORD_BYTES && interval.isSettled(); moved++) {
        interval.shift();
        interval.pull(encoded);
      }
      predictor.learn(isOne, mixture);
      value = 2 * value + (isOne ? 1 : 0);
    }
    return value;
  }

  private int differences() {
    int longer = Math.max(text.count, decoded.count);
    int found = 0;
    for (int place = 0; place < longer; place++) {
      boolean same = text.has(place) && decoded.has(place) && text.at(place) == decoded.at(place);
      if (!same) {
        found++;
      }
    }
    return found;
  }

  private long digestModels(long start) {
    long d = start * 31 + predictor.modelTotal;
    for (int m = 0; m < predictor.modelTotal; m++) {
      Model model = predictor.models[m];
      d = d * 31 + model.order;
      d = d * 31 + model.rate;
      d = d * 31 + model.t;
      for (int phase = 0; phase < BITS; phase++) {
        d = d * 31 + model.weights[phase];
      }
      d = d * 31 + model.collisionTotal;
    }
    return d;
  }

  private static long digestBytes(long start, ByteRow row) {
    long d = start * 31 + row.count;
    for (int place = 0; place < row.count; place++) {
      d = d * 31 + row.at(place);
    }
    return d;
  }

  /** A sequence of bytes that grows and shrinks at its end. */
  private static final class ByteRow {
    final int[] bytes;
    int count;

    ByteRow(int limit) {
      bytes = new int[Math.max(limit, 0)];
      count = 0;
    }

    boolean has(int place) {
      return place >= 0 && place < count && place < bytes.length;
    }

    /** Behind the end there are zeros: that is what the decoder is promised there. */
    int at(int place) {
      return has(place) ? bytes[place] : 0;
    }

    void put(int place, int value) {
      if (has(place)) {
        bytes[place] = value;
      }
    }

    void append(int value) {
      if (count >= 0 && count < bytes.length) {
        bytes[count] = value;
        count++;
      }
    }

    void clear() {
      count = 0;
    }
  }

  /** A table of counters, with the weights that the mixer gives them. */
  private static final class Model {
    int order;
    int rate;
    int t;
    final int[] counters;
    /** For each counter what it was looked at for the latest time; 0 is never. */
    final long[] seen;
    final int[] weights;
    int collisionTotal;
    int context;
    /** What distinguishes the present context and node from all others; never 0, as no node is. */
    long sight;
    int place;

    Model() {
      counters = new int[TABLE_LIMIT];
      seen = new long[TABLE_LIMIT];
      weights = new int[BITS];
    }

    void shape(int newOrder, int newRate, int newT) {
      order = newOrder;
      rate = newRate;
      t = newT;
    }

    int tableSize() {
      return Math.min(1 << t, TABLE_LIMIT);
    }

    void forget() {
      Arrays.fill(counters, HALF);
      Arrays.fill(seen, 0L);
      Arrays.fill(weights, WEIGHT_FIRST);
      collisionTotal = 0;
    }

    void readContext(int[] latest) {
      int c = 0;
      for (int back = 0; back < order && back < latest.length; back++) {
        c = 257 * c + 1 + latest[back];
      }
      context = c;
    }

    void aim(int treeNode) {
      sight = (long) BYTE_LIMIT * context + treeNode;
      place = (73 * context + treeNode) & (tableSize() - 1);
    }

    int guess() {
      return counters[place];
    }

    void adjustWeight(int phase, boolean isOne, int mixedQuality) {
      int own = quality(guess(), isOne);
      int w = weights[phase];
      if (own > mixedQuality) {
        weights[phase] = Math.min(w + w / 16 + 1, WEIGHT_MOST);
      } else if (own < mixedQuality) {
        weights[phase] = Math.max(w - w / 16 - 1, 1);
      }
    }

    void adjustCounter(boolean isOne) {
      int p = counters[place];
      counters[place] = isOne ? p + ((ONE - p) >> rate) : p - (p >> rate);
      if (seen[place] != 0 && seen[place] != sight) {
        collisionTotal++;
      }
      seen[place] = sight;
    }
  }

  /** The models together with what they look at and how well they did. */
  private static final class Predictor {
    final Model[] models;
    int modelTotal;
    /** The latest whole bytes, the newest one first. */
    final int[] latest;
    int treeNode;
    int phase;
    int bitTotal;
    long errorSum;

    Predictor() {
      models = new Model[MODEL_LIMIT];
      for (int m = 0; m < MODEL_LIMIT; m++) {
        models[m] = new Model();
      }
      modelTotal = 0;
      latest = new int[ORDER_MOST];
      restart();
    }

    void takeModel(int order, int rate, int t) {
      if (modelTotal >= 0 && modelTotal < MODEL_LIMIT) {
        models[modelTotal].shape(order, rate, t);
        modelTotal++;
        restart();
      }
    }

    void dropModel() {
      if (modelTotal > 0) {
        modelTotal--;
        restart();
      }
    }

    void restart() {
      for (int m = 0; m < modelTotal; m++) {
        models[m].forget();
      }
      Arrays.fill(latest, 0);
      treeNode = 1;
      phase = 0;
      bitTotal = 0;
      errorSum = 0;
      readContexts();
      aimModels();
    }

    void readContexts() {
      for (int m = 0; m < modelTotal; m++) {
        models[m].readContext(latest);
      }
    }

    void aimModels() {
      for (int m = 0; m < modelTotal; m++) {
        models[m].aim(treeNode);
      }
    }

    /** The sums fit an int: six times 60000 times 4095 is less than 2^31. */
    int mixture() {
      int products = 0;
      int total = 0;
      for (int m = 0; m < modelTotal; m++) {
        int w = models[m].weights[phase];
        products += w * models[m].guess();
        total += w;
      }
      if (total <= 0) {
        return HALF;
      }
      return Math.max(1, Math.min(products / total, ONE - 1));
    }

    void learn(boolean isOne, int mixture) {
      int mixedQuality = quality(mixture, isOne);
      errorSum += ONE - mixedQuality;
      for (int m = 0; m < modelTotal; m++) {
        models[m].adjustWeight(phase, isOne, mixedQuality);
        models[m].adjustCounter(isOne);
      }
      bitTotal++;
      step(isOne);
      aimModels();
    }

    void step(boolean isOne) {
      treeNode = 2 * treeNode + (isOne ? 1 : 0);
      phase = (phase + 1) % BITS;
      if (treeNode >= BYTE_LIMIT) {
        for (int back = ORDER_MOST - 1; back > 0; back--) {
          latest[back] = latest[back - 1];
        }
        latest[0] = treeNode - BYTE_LIMIT;
        treeNode = 1;
        readContexts();
      }
    }

    int heaviest() {
      int best = -1;
      int bestWeight = 0;
      for (int m = 0; m < modelTotal; m++) {
        if (models[m].weights[phase] > bestWeight) {
          best = m;
          bestWeight = models[m].weights[phase];
        }
      }
      return best;
    }
  }

  /** The arithmetic coder's low and high, and the decoder's x between them. */
  private static final class Interval {
    long low;
    long high;
    long x;
    int next;

    Interval() {
      open();
    }

    void open() {
      low = 0;
      high = WORD_MASK;
      x = 0;
      next = 0;
    }

    void load(ByteRow code) {
      for (int done = 0; done < WORD_BYTES; done++) {
        pull(code);
      }
    }

    void pull(ByteRow code) {
      x = ((x << BITS) & WORD_MASK) + code.at(next);
      next++;
    }

    long middle(int mixture) {
      return low + ((high - low) / ONE) * mixture;
    }

    void narrow(boolean isOne, long middle) {
      if (isOne) {
        high = middle;
      } else {
        low = middle + 1;
      }
    }

    boolean isSettled() {
      return topByte(low) == topByte(high);
    }

    /** Moves both numbers up by a byte and answers the byte that low loses. */
    int shift() {
      int lost = topByte(low);
      low = (low << BITS) & WORD_MASK;
      high = ((high << BITS) & WORD_MASK) + (BYTE_LIMIT - 1);
      return lost;
    }

    static int topByte(long word) {
      return (int) (word >>> (BITS * (WORD_BYTES - 1)));
    }
  }
}
