/**
 * A test a promise, with answers worked out by hand from the document.
 * ReferenceTest covers the long runs.
 */
public final class PromisesTest {
  private static final String ARGUMENT = "IllegalArgumentException";
  private static final String STATE = "IllegalStateException";
  private static final String INDEX = "IndexOutOfBoundsException";
  private static final int[] FAR = {Integer.MIN_VALUE, Integer.MIN_VALUE + 1, -1, Integer.MAX_VALUE - 1, Integer.MAX_VALUE};

  private static final Check check = new Check();

  public static void main(String[] args) {
    newObject();
    addModel();
    removeModel();
    setRate();
    modelCount();
    feed();
    fill();
    cut();
    size();
    byteAt();
    reset();
    observe();
    mixed();
    prediction();
    index();
    counter();
    weight();
    weightLimits();
    leader();
    collisions();
    collisionsByContext();
    history();
    node();
    observed();
    error();
    meanError();
    encode();
    codeSize();
    code();
    setCode();
    cutCode();
    decode();
    decodeOfChangedCode();
    narrowInterval();
    outputSize();
    output();
    ratio();
    digest();
    afterManyCalls();
    check.end();
  }

  private static void observeBits(BitMixer x, String bits) {
    for (int i = 0; i < bits.length(); i++) {
      x.observe(bits.charAt(i) == '1');
    }
  }

  /** Order 0, rates 2 and 4, and one byte of ones seen: in phase 0 they predict 2560 and 2176. */
  private static BitMixer twoRates() {
    BitMixer x = new BitMixer();
    x.addModel(0, 2, 9);
    x.addModel(0, 4, 9);
    observeBits(x, "11111111");
    return x;
  }

  private static long digestOf(long... numbers) {
    long d = 103;
    for (long number : numbers) {
      d = d * 31 + number;
    }
    return d;
  }

  // Promise 1
  private static void newObject() {
    BitMixer x = new BitMixer();
    check.due("new: modelCount", 0, x::modelCount);
    check.due("new: size", 0, x::size);
    check.due("new: codeSize", 0, x::codeSize);
    check.due("new: outputSize", 0, x::outputSize);
    check.due("new: node", 1, x::node);
    check.due("new: observed", 0, x::observed);
    check.due("new: error", 0, x::error);
    check.due("new: meanError", 0.0, x::meanError);
    check.due("new: ratio", 0.0, x::ratio);
    check.due("new: mixed", 2048, x::mixed);
    check.due("new: leader", -1, x::leader);
    for (int back = 0; back < 3; back++) {
      int b = back;
      check.due("new: history(" + b + ")", 0, () -> x.history(b));
    }
    check.due("new: digest", digestOf(0, 0, 1, 0, 0, 0, 0), x::digest);
    BitMixer other = new BitMixer();
    other.fill(7, 3);
    other.addModel(1, 2, 4);
    other.observe(true);
    check.due("new: another object's calls do not matter", digestOf(0, 0, 1, 0, 0, 0, 0), x::digest);
  }

  // Promise 2
  private static void addModel() {
    BitMixer x = new BitMixer();
    for (int far : FAR) {
      check.refused("addModel order " + far, x, ARGUMENT, () -> x.addModel(far, 2, 4));
      check.refused("addModel rate " + far, x, ARGUMENT, () -> x.addModel(0, far, 4));
      check.refused("addModel t " + far, x, ARGUMENT, () -> x.addModel(0, 2, far));
    }
    check.refused("addModel order 4", x, ARGUMENT, () -> x.addModel(4, 2, 4));
    check.refused("addModel rate 1", x, ARGUMENT, () -> x.addModel(0, 1, 4));
    check.refused("addModel rate 8", x, ARGUMENT, () -> x.addModel(0, 8, 4));
    check.refused("addModel t 3", x, ARGUMENT, () -> x.addModel(0, 2, 3));
    check.refused("addModel t 10", x, ARGUMENT, () -> x.addModel(0, 2, 10));
    x.observe(true);
    check.due("addModel least", 0, () -> x.addModel(0, 2, 4));
    check.due("addModel resets", 0, x::observed);
    check.due("addModel resets the node", 1, x::node);
    check.due("addModel most", 1, () -> x.addModel(3, 7, 9));
    check.due("addModel order 1", 2, () -> x.addModel(1, 3, 5));
    check.due("addModel order 2", 3, () -> x.addModel(2, 4, 6));
    check.due("addModel fifth", 4, () -> x.addModel(2, 5, 7));
    x.observe(false);
    check.due("addModel sixth", 5, () -> x.addModel(2, 6, 8));
    check.due("addModel resets the counters", 2048, () -> x.counter(0, 1));
    x.observe(false);
    check.refused("addModel seventh", x, STATE, () -> x.addModel(0, 2, 4));
    check.refused("addModel seventh of a wrong order", x, ARGUMENT, () -> x.addModel(4, 2, 4));
    check.refused("addModel seventh of a wrong rate", x, ARGUMENT, () -> x.addModel(0, 8, 4));
    check.refused("addModel seventh of a wrong t", x, ARGUMENT, () -> x.addModel(0, 2, 3));
    check.due("addModel, all six", 6, x::modelCount);
  }

  // Promise 3
  private static void removeModel() {
    BitMixer x = new BitMixer();
    check.refused("removeModel of none", x, STATE, x::removeModel);
    x.addModel(0, 2, 9);
    x.addModel(1, 3, 4);
    observeBits(x, "110100111");
    check.due("removeModel", 1, x::removeModel);
    check.due("removeModel resets", 0, x::observed);
    check.due("removeModel resets the counters", 2048, () -> x.counter(0, 1));
    check.due("removeModel takes the last", 2048, () -> x.counter(0, 511));
    check.due("removeModel, the removed one", "throws." + INDEX, () -> x.prediction(1));
    check.due("addModel in its place", 1, () -> x.addModel(2, 7, 5));
    check.due("addModel in its place has its own size", "throws." + INDEX, () -> x.counter(1, 32));
    check.due("addModel in its place has its own rate", 7, () -> x.setRate(1, 7));
    check.due("removeModel again", 1, x::removeModel);
    check.due("removeModel to none", 0, x::removeModel);
    check.refused("removeModel once too often", x, STATE, x::removeModel);
    check.due("removeModel, mixed", 2048, x::mixed);
  }

  // Promise 4
  private static void setRate() {
    BitMixer x = new BitMixer();
    check.refused("setRate without models", x, INDEX, () -> x.setRate(0, 3));
    x.addModel(0, 4, 9);
    x.observe(true);
    for (int far : FAR) {
      check.refused("setRate model " + far, x, INDEX, () -> x.setRate(far, 3));
      check.refused("setRate model and rate " + far, x, INDEX, () -> x.setRate(far, far));
      check.refused("setRate rate " + far, x, ARGUMENT, () -> x.setRate(0, far));
    }
    check.refused("setRate model 1", x, INDEX, () -> x.setRate(1, 3));
    check.refused("setRate rate 1", x, ARGUMENT, () -> x.setRate(0, 1));
    check.refused("setRate rate 8", x, ARGUMENT, () -> x.setRate(0, 8));
    check.due("setRate 2", 4, () -> x.setRate(0, 2));
    check.due("setRate resets", 0, x::observed);
    check.due("setRate resets the counters", 2048, () -> x.counter(0, 1));
    x.observe(true);
    check.due("setRate is used", 2560, () -> x.counter(0, 1));
    check.due("setRate to the same", 2, () -> x.setRate(0, 2));
    check.due("setRate to the same resets", 0, x::observed);
    check.due("setRate 7", 2, () -> x.setRate(0, 7));
    x.observe(true);
    check.due("setRate 7 is used", 2064, () -> x.counter(0, 1));
  }

  // Promise 5
  private static void modelCount() {
    BitMixer x = new BitMixer();
    for (int many = 0; many < 6; many++) {
      check.due("modelCount", many, x::modelCount);
      x.addModel(many % 4, 2, 4);
    }
    check.due("modelCount", 6, x::modelCount);
    x.removeModel();
    check.due("modelCount behind removeModel", 5, x::modelCount);
  }

  // Promise 6
  private static void feed() {
    BitMixer x = new BitMixer();
    for (int far : FAR) {
      check.refused("feed many " + far, x, ARGUMENT, () -> x.feed(1, far));
    }
    check.refused("feed many 0", x, ARGUMENT, () -> x.feed(1, 0));
    check.refused("feed many 9", x, ARGUMENT, () -> x.feed(1, 9));
    x.observe(true);
    check.due("feed 3", 3, () -> x.feed(0x7F01FF80L, 3));
    check.due("feed 3, first", 0x01, () -> x.byteAt(0));
    check.due("feed 3, second", 0xFF, () -> x.byteAt(1));
    check.due("feed 3, last", 0x80, () -> x.byteAt(2));
    check.due("feed 8", 11, () -> x.feed(0xFEDCBA9876543210L, 8));
    check.due("feed 8, first", 0xFE, () -> x.byteAt(3));
    check.due("feed 8, fourth", 0x98, () -> x.byteAt(6));
    check.due("feed 8, last", 0x10, () -> x.byteAt(10));
    check.due("feed 1", 12, () -> x.feed(-1L, 1));
    check.due("feed 1, the byte", 255, () -> x.byteAt(11));
    check.due("feed does not reset", 1, x::observed);
    x.fill(0, 61);
    check.refused("feed over the limit", x, STATE, () -> x.feed(1, 8));
    check.refused("feed over the limit, many 9", x, ARGUMENT, () -> x.feed(1, 9));
    check.due("feed to the limit", 80, () -> x.feed(0x0102030405060708L, 7));
    check.due("feed to the limit, the last", 8, () -> x.byteAt(79));
    check.refused("feed to a full text", x, STATE, () -> x.feed(1, 1));
  }

  // Promise 7
  private static void fill() {
    BitMixer x = new BitMixer();
    for (int far : FAR) {
      check.refused("fill value " + far, x, ARGUMENT, () -> x.fill(far, 1));
      check.refused("fill many " + far, x, ARGUMENT, () -> x.fill(1, far));
    }
    check.refused("fill value 256", x, ARGUMENT, () -> x.fill(256, 1));
    check.refused("fill many 0", x, ARGUMENT, () -> x.fill(1, 0));
    check.refused("fill many 81", x, ARGUMENT, () -> x.fill(1, 81));
    x.observe(true);
    check.due("fill 255", 2, () -> x.fill(255, 2));
    check.due("fill 0", 3, () -> x.fill(0, 1));
    check.due("fill, first", 255, () -> x.byteAt(0));
    check.due("fill, second", 255, () -> x.byteAt(1));
    check.due("fill, third", 0, () -> x.byteAt(2));
    check.due("fill does not reset", 1, x::observed);
    check.refused("fill over the limit", x, STATE, () -> x.fill(1, 78));
    check.refused("fill over the limit, the most", x, STATE, () -> x.fill(1, 80));
    check.refused("fill over the limit, many 81", x, ARGUMENT, () -> x.fill(1, 81));
    check.refused("fill over the limit, value 256", x, ARGUMENT, () -> x.fill(256, 80));
    check.due("fill to the limit", 80, () -> x.fill(1, 77));
    check.refused("fill of a full text", x, STATE, () -> x.fill(1, 1));
    BitMixer y = new BitMixer();
    check.due("fill 80 at once", 80, () -> y.fill(9, 80));
  }

  // Promise 8
  private static void cut() {
    BitMixer x = new BitMixer();
    check.due("cut nothing of nothing", 0, () -> x.cut(0));
    check.refused("cut of nothing", x, ARGUMENT, () -> x.cut(1));
    x.feed(0x0102030405L, 5);
    x.observe(true);
    for (int far : FAR) {
      check.refused("cut " + far, x, ARGUMENT, () -> x.cut(far));
    }
    check.refused("cut too many", x, ARGUMENT, () -> x.cut(6));
    check.due("cut 0", 5, () -> x.cut(0));
    check.due("cut 2", 3, () -> x.cut(2));
    check.due("cut leaves the first ones", 3, () -> x.byteAt(2));
    check.due("cut, no byte there", "throws." + INDEX, () -> x.byteAt(3));
    check.due("cut does not reset", 1, x::observed);
    x.feed(9, 1);
    check.due("cut, then feed", 9, () -> x.byteAt(3));
    check.due("cut all", 0, () -> x.cut(4));
  }

  // Promise 9
  private static void size() {
    BitMixer x = new BitMixer();
    x.feed(1, 3);
    check.due("size behind feed", 3, x::size);
    x.fill(1, 10);
    check.due("size behind fill", 13, x::size);
    x.cut(4);
    check.due("size behind cut", 9, x::size);
    x.encode();
    x.decode(20);
    check.due("size behind encode and decode", 9, x::size);
  }

  // Promise 10
  private static void byteAt() {
    BitMixer x = new BitMixer();
    check.refused("byteAt of nothing", x, INDEX, () -> x.byteAt(0));
    x.feed(0x00FFL, 2);
    check.due("byteAt 0", 0, () -> x.byteAt(0));
    check.due("byteAt 1", 255, () -> x.byteAt(1));
    check.refused("byteAt 2", x, INDEX, () -> x.byteAt(2));
    for (int far : FAR) {
      check.refused("byteAt " + far, x, INDEX, () -> x.byteAt(far));
    }
    x.fill(3, 78);
    check.due("byteAt 79", 3, () -> x.byteAt(79));
    check.refused("byteAt 80", x, INDEX, () -> x.byteAt(80));
  }

  // Promise 11
  private static void reset() {
    BitMixer x = new BitMixer();
    check.due("reset of the beginning", 0, x::reset);
    x.addModel(0, 2, 4);
    x.addModel(0, 4, 4);
    x.feed(0x41, 1);
    x.encode();
    x.decode(1);
    x.reset();
    long before = x.digest();
    observeBits(x, "1111111101");
    check.due("reset", 10, x::reset);
    check.due("reset, all that the digest sees", before, x::digest);
    check.due("reset, error", 0, x::error);
    check.due("reset, observed", 0, x::observed);
    check.due("reset, node", 1, x::node);
    check.due("reset, history", 0, () -> x.history(0));
    check.due("reset, weight", 256, () -> x.weight(0, 0));
    check.due("reset, collisions", 0, () -> x.collisions(0));
    for (int i = 0; i < 16; i++) {
      int at = i;
      check.due("reset, counter " + at, 2048, () -> x.counter(0, at));
    }
    observeBits(x, "1110");
    check.due("reset, no counter counts as looked at", 0, () -> x.collisions(0));
    check.due("reset again", 4, x::reset);
    observeBits(x, "11111111" + "1");
    check.due("reset, the phase begins anew", 273, () -> x.weight(0, 0));
    check.due("reset leaves the models", 2, x::modelCount);
    check.due("reset leaves the text", 1, x::size);
    check.due("reset leaves what was decoded", 1, x::outputSize);
  }

  // Promise 12
  private static void observe() {
    BitMixer x = new BitMixer();
    check.due("observe without models", 2048, () -> x.observe(true));
    check.due("observe without models, 0", 2048, () -> x.observe(false));
    x.addModel(0, 4, 9);
    check.due("observe 1", 2048, () -> x.observe(true));
    check.due("observe 1 moves the counter", 2176, () -> x.counter(0, 1));
    check.due("observe 1 leaves the others", 2048, () -> x.counter(0, 3));
    observeBits(x, "0000000");
    check.due("observe 0 moves the counter", 1920, () -> x.counter(0, 3));
    check.due("observe 1, quality", 2176, () -> x.observe(true));
    check.due("observe 1 again moves the counter", 2296, () -> x.counter(0, 1));
    observeBits(x, "0000000");
    check.due("observe 0, quality", 4096 - 2296, () -> x.observe(false));
    check.due("observe 0 rounds the quotient", 2296 - 143, () -> x.counter(0, 1));
    check.due("observe, error", 17 * 4096L - qualitiesOfThatRun(), x::error);
    BitMixer y = twoRates();
    check.due("observe, the mixed quality", 2368, () -> y.observe(true));
    BitMixer z = twoRates();
    check.due("observe 0, the mixed quality", 4096 - 2368, () -> z.observe(false));
    check.due("observe 0, rate 2", 2560 - 640, () -> z.counter(0, 1));
    check.due("observe 0, rate 4", 2176 - 136, () -> z.counter(1, 1));
  }

  /** Eight bits 10000000, the same again, then 0, with rate 4: the zeros' counters fall by a 16th. */
  private static long qualitiesOfThatRun() {
    return 8 * 2048 + 2176 + 7 * (4096 - 1920) + (4096 - 2296);
  }

  // Promise 13
  private static void mixed() {
    BitMixer x = twoRates();
    check.due("mixed of equal weights", 2368, x::mixed);
    check.due("mixed changes nothing", 2368, x::mixed);
    observeBits(x, "11111111");
    // 2560 + 384 with the weight 273, 2176 + 120 with the weight 239
    check.due("mixed of other weights, rounded down", (273 * 2944 + 239 * 2296) / 512, x::mixed);
    BitMixer y = twoRates();
    observeBits(y, "10111111");
    check.due("mixed in phase 0", (273 * 2944 + 239 * 2296) / 512, y::mixed);
    y.observe(true);
    check.due("mixed in phase 1", (239 * 1920 + 273 * 2040) / 512, y::mixed);
    x.removeModel();
    check.due("mixed of one model", 2048, x::mixed);
    x.observe(true);
    observeBits(x, "0000000");
    check.due("mixed of one model is its prediction", 2560, x::mixed);
    x.removeModel();
    check.due("mixed without models", 2048, x::mixed);
    x.observe(true);
    check.due("mixed without models learns nothing", 2048, x::mixed);
  }

  // Promise 14
  private static void prediction() {
    BitMixer none = new BitMixer();
    check.refused("prediction without models", none, INDEX, () -> none.prediction(0));
    BitMixer x = twoRates();
    check.due("prediction 0", 2560, () -> x.prediction(0));
    check.due("prediction 1", 2176, () -> x.prediction(1));
    check.refused("prediction 2", x, INDEX, () -> x.prediction(2));
    for (int far : FAR) {
      check.refused("prediction " + far, x, INDEX, () -> x.prediction(far));
    }
    x.observe(false);
    check.due("prediction at another node", 2048, () -> x.prediction(0));
  }

  // Promise 15
  private static void index() {
    BitMixer x = new BitMixer();
    check.refused("index without models", x, INDEX, () -> x.index(0));
    for (int order = 0; order <= 3; order++) {
      x.addModel(order, 2, 9);
    }
    // with zeros in the history c is 0, 1, 258 and 66307
    check.due("index, order 0", 1, () -> x.index(0));
    check.due("index, order 1", 74, () -> x.index(1));
    check.due("index, order 2", (73 * 258 + 1) % 512, () -> x.index(2));
    check.due("index, order 3", (73 * 66307 + 1) % 512, () -> x.index(3));
    observeBits(x, "01000001" + "11111111" + "00000010" + "101");
    // the bytes 65, 255 and 2, the last one first; the node is 13
    check.due("index, order 0, bytes", 13, () -> x.index(0));
    check.due("index, order 1, bytes", (73 * 3 + 13) % 512, () -> x.index(1));
    check.due("index, order 2, bytes", (73 * (257 * 3 + 256) + 13) % 512, () -> x.index(2));
    check.due("index, order 3, bytes", (73L * (257L * (257 * 3 + 256) + 66) + 13) % 512, () -> x.index(3));
    x.reset();
    observeBits(x, "11111111".repeat(3) + "1111111");
    check.due("index, order 3, the greatest", (73L * (257L * (257 * 256 + 256) + 256) + 255) % 512, () -> x.index(3));
    check.refused("index 4", x, INDEX, () -> x.index(4));
    for (int far : FAR) {
      check.refused("index " + far, x, INDEX, () -> x.index(far));
    }
    BitMixer y = new BitMixer();
    y.addModel(1, 2, 4);
    check.due("index, t 4", 74 % 16, () -> y.index(0));
  }

  // Promise 16
  private static void counter() {
    BitMixer x = new BitMixer();
    check.refused("counter without models", x, INDEX, () -> x.counter(0, 0));
    for (int t = 4; t <= 9; t++) {
      int model = x.addModel(0, 3, t);
      int many = 1 << t;
      check.due("counter, the last of t " + t, 2048, () -> x.counter(model, many - 1));
      check.refused("counter, behind the last of t " + t, x, INDEX, () -> x.counter(model, many));
      check.due("counter, the first", 2048, () -> x.counter(model, 0));
    }
    x.observe(true);
    check.due("counter, one that learned", 2304, () -> x.counter(0, 1));
    check.due("counter, of another model", 2304, () -> x.counter(5, 1));
    check.due("counter, one that did not", 2048, () -> x.counter(0, 2));
    check.refused("counter of model 6", x, INDEX, () -> x.counter(6, 0));
    BitMixer two = twoRates();
    for (int far : FAR) {
      check.refused("counter of model " + far, two, INDEX, () -> two.counter(far, 0));
      check.refused("counter " + far, two, INDEX, () -> two.counter(0, far));
    }
    BitMixer y = new BitMixer();
    y.addModel(0, 2, 4);
    y.fill(255, 80);
    y.encode();
    check.due("counter, the greatest", 4093, () -> y.counter(0, 15));
    y.cut(80);
    y.fill(0, 80);
    y.encode();
    check.due("counter, the least", 3, () -> y.counter(0, 1));
  }

  // Promise 17
  private static void weight() {
    BitMixer x = new BitMixer();
    check.refused("weight without models", x, INDEX, () -> x.weight(0, 0));
    x.addModel(0, 2, 9);
    check.due("weight at first", 256, () -> x.weight(0, 7));
    for (int far : FAR) {
      check.refused("weight of model " + far, x, INDEX, () -> x.weight(far, 0));
      check.refused("weight in phase " + far, x, INDEX, () -> x.weight(0, far));
    }
    check.refused("weight of model 1", x, INDEX, () -> x.weight(1, 0));
    check.refused("weight in phase 8", x, INDEX, () -> x.weight(0, 8));
    observeBits(x, "1111111111111111");
    check.due("weight of one model alone", 256, () -> x.weight(0, 0));
    BitMixer y = twoRates();
    check.due("weight of equal qualities", 256, () -> y.weight(0, 0));
    y.observe(true);
    check.due("weight of the better one", 273, () -> y.weight(0, 0));
    check.due("weight of the worse one", 239, () -> y.weight(1, 0));
    check.due("weight in another phase", 256, () -> y.weight(0, 1));
    y.observe(false);
    check.due("weight of the one that is worse in phase 1", 239, () -> y.weight(0, 1));
    check.due("weight of the one that is better in phase 1", 273, () -> y.weight(1, 1));
    check.due("weight, phase 0 is left alone then", 273, () -> y.weight(0, 0));
    observeBits(y, "111111" + "1");
    check.due("weight of the better one, again", 273 + 17 + 1, () -> y.weight(0, 0));
    check.due("weight of the worse one, again", 239 - 14 - 1, () -> y.weight(1, 0));
  }

  private static void weightLimits() {
    BitMixer x = new BitMixer();
    x.addModel(0, 2, 9);
    x.addModel(0, 7, 9);
    x.fill(255, 80);
    x.encode();
    int w = 256;
    for (int bytes = 1; bytes < 80; bytes++) {
      w = w + w / 16 + 1;
    }
    int grown = w;
    check.due("weight behind 80 bytes", grown, () -> x.weight(0, 0));
    check.due("weight, the least", 1, () -> x.weight(1, 0));
    observeBits(x, "11111111".repeat(30));
    check.due("weight, the greatest", 60000, () -> x.weight(0, 0));
    check.due("weight, the least stays", 1, () -> x.weight(1, 0));
    x.observe(false);
    check.due("weight, down from the greatest", 60000 - 3750 - 1, () -> x.weight(0, 0));
    check.due("weight, up from the least", 2, () -> x.weight(1, 0));
  }

  // Promise 18
  private static void leader() {
    BitMixer x = new BitMixer();
    check.due("leader of none", -1, x::leader);
    x.addModel(0, 2, 9);
    check.due("leader of one", 0, x::leader);
    BitMixer y = twoRates();
    check.due("leader of equal weights", 0, y::leader);
    y.observe(false);
    check.due("leader of equal weights in phase 1", 0, y::leader);
    observeBits(y, "1111111");
    check.due("leader in phase 0", 1, y::leader);
    y.observe(true);
    check.due("leader in phase 1 again", 0, y::leader);
    y.reset();
    check.due("leader behind reset", 0, y::leader);
    BitMixer z = new BitMixer();
    z.addModel(0, 2, 9);
    z.addModel(0, 4, 9);
    z.addModel(0, 4, 9);
    observeBits(z, "11111111" + "01111111");
    check.due("leader of the two greatest", 1, z::leader);
  }

  // Promise 19
  private static void collisions() {
    BitMixer x = new BitMixer();
    check.refused("collisions without models", x, INDEX, () -> x.collisions(0));
    x.addModel(0, 2, 4);
    x.addModel(0, 2, 9);
    for (int far : FAR) {
      check.refused("collisions of model " + far, x, INDEX, () -> x.collisions(far));
    }
    check.refused("collisions of model 2", x, INDEX, () -> x.collisions(2));
    // the nodes 1, 3, 7, 15, 31, 63, 127, 255: from 31 on they share counter 15 of 16
    observeBits(x, "1111");
    check.due("collisions, none yet", 0, () -> x.collisions(0));
    observeBits(x, "1");
    check.due("collisions, the first", 1, () -> x.collisions(0));
    observeBits(x, "111");
    check.due("collisions of a byte", 4, () -> x.collisions(0));
    observeBits(x, "111");
    check.due("collisions, the same nodes again", 4, () -> x.collisions(0));
    observeBits(x, "1");
    check.due("collisions, 255 and then 15", 5, () -> x.collisions(0));
    observeBits(x, "1111");
    check.due("collisions of a large table", 0, () -> x.collisions(1));
    x.reset();
    check.due("collisions behind reset", 0, () -> x.collisions(0));
    x.fill(255, 2);
    x.encode();
    check.due("collisions of an encoding", 9, () -> x.collisions(0));
    x.addModel(0, 2, 4);
    check.due("collisions behind addModel", 0, () -> x.collisions(0));
  }

  /** Contexts 16 apart share a counter of 16 at the same node: only c tells them from one another. */
  private static void collisionsByContext() {
    BitMixer x = new BitMixer();
    x.addModel(1, 2, 4);
    observeBits(x, "00010000" + "00000000");
    int before = x.collisions(0);
    int place = x.index(0);
    observeBits(x, "00010000");
    check.due("collisions by context, the same counter", place, () -> x.index(0));
    // at node 1 the counter was last looked at in the context of byte 0, now it is byte 16
    int sofar = x.collisions(0);
    x.observe(false);
    check.due("collisions by context, another c", sofar + 1, () -> x.collisions(0));
    check.due("collisions by context, they only grow", true, () -> sofar >= before);
  }

  // Promise 20
  private static void history() {
    BitMixer x = new BitMixer();
    for (int far : FAR) {
      check.refused("history " + far, x, INDEX, () -> x.history(far));
    }
    check.refused("history 3", x, INDEX, () -> x.history(3));
    observeBits(x, "0100000");
    check.due("history of no whole byte", 0, () -> x.history(0));
    observeBits(x, "1");
    check.due("history of a byte", 65, () -> x.history(0));
    check.due("history, the one before", 0, () -> x.history(1));
    observeBits(x, "11111111" + "00000000" + "10000000");
    check.due("history, the latest", 128, () -> x.history(0));
    check.due("history, the second", 0, () -> x.history(1));
    check.due("history, the third", 255, () -> x.history(2));
    x.feed(0x0102030405L, 5);
    x.encode();
    check.due("history of an encoding", 5, () -> x.history(0));
    check.due("history of an encoding, 2", 3, () -> x.history(2));
    x.decode(1);
    check.due("history of a decoding", 1, () -> x.history(0));
    check.due("history of a decoding, 1", 0, () -> x.history(1));
  }

  // Promise 21
  private static void node() {
    BitMixer x = new BitMixer();
    int[] due = {3, 6, 13, 27, 54, 108, 217, 1};
    String bits = "10110010";
    for (int i = 0; i < due.length; i++) {
      observeBits(x, bits.substring(i, i + 1));
      check.due("node behind " + bits.substring(0, i + 1), due[i], x::node);
    }
    x.observe(false);
    check.due("node of the next byte", 2, x::node);
    x.encode();
    check.due("node behind encode", 1, x::node);
  }

  // Promise 22
  private static void observed() {
    BitMixer x = new BitMixer();
    observeBits(x, "10101010101");
    check.due("observed", 11, x::observed);
    x.fill(1, 5);
    check.due("observed behind fill", 11, x::observed);
    x.encode();
    check.due("observed behind encode", 40, x::observed);
    x.observe(true);
    check.due("observed behind encode and observe", 41, x::observed);
    x.decode(3);
    check.due("observed behind decode", 24, x::observed);
    x.decode(0);
    check.due("observed behind decode of nothing", 0, x::observed);
  }

  // Promise 23
  private static void error() {
    BitMixer x = new BitMixer();
    observeBits(x, "10");
    check.due("error without models", 4096, x::error);
    BitMixer y = twoRates();
    check.due("error of a byte", 8 * 2048, y::error);
    y.observe(false);
    check.due("error of a wrong prediction", 8 * 2048 + 2368, y::error);
    y.reset();
    check.due("error behind reset", 0, y::error);
    BitMixer z = twoRates();
    z.observe(true);
    check.due("error of a right prediction", 8 * 2048 + 4096 - 2368, z::error);
    x.fill(3, 4);
    x.encode();
    check.due("error behind encode", 32 * 2048, x::error);
    x.decode(2);
    check.due("error behind decode", 16 * 2048, x::error);
  }

  // Promise 24
  private static void meanError() {
    BitMixer x = new BitMixer();
    check.due("meanError of nothing", 0.0, x::meanError);
    x.observe(true);
    check.due("meanError without models", 0.5, x::meanError);
    BitMixer y = twoRates();
    y.observe(false);
    check.due("meanError", (8 * 2048 + 2368) / (4096.0 * 9), y::meanError);
    y.reset();
    check.due("meanError behind reset", 0.0, y::meanError);
  }

  // Promise 25
  private static void encode() {
    BitMixer x = new BitMixer();
    x.observe(true);
    check.due("encode of nothing", 4, x::encode);
    check.due("encode of nothing resets", 0, x::observed);
    for (int i = 0; i < 4; i++) {
      int at = i;
      check.due("encode of nothing, code " + at, 0, () -> x.code(at));
    }
    // a half each time: ones halve high, down to 0x00FFF800, whose first byte is low's
    x.fill(255, 1);
    check.due("encode of 255 without models", 5, x::encode);
    for (int i = 0; i < 5; i++) {
      int at = i;
      check.due("encode of 255, code " + at, 0, () -> x.code(at));
    }
    // zeros raise low to 0xFEFFF808, and no first byte is high's
    x.cut(1);
    x.fill(0, 1);
    check.due("encode of 0 without models", 4, x::encode);
    check.due("encode of 0, code 0", 0xFE, () -> x.code(0));
    check.due("encode of 0, code 1", 0xFF, () -> x.code(1));
    check.due("encode of 0, code 2", 0xF8, () -> x.code(2));
    check.due("encode of 0, code 3", 0x08, () -> x.code(3));
    check.due("encode, observed", 8, x::observed);
    // 01 and then ones: low is 0x7FFFF801, high is 0xBFFFF801 and goes down to it
    x.cut(1);
    x.fill(0x7F, 1);
    x.encode();
    check.due("encode of 127, code 0", 0x7F, () -> x.code(0));
    check.due("encode of 127, code 1", 0xFF, () -> x.code(1));
    BitMixer y = new BitMixer();
    y.addModel(0, 4, 9);
    y.addModel(1, 2, 9);
    y.fill(97, 80);
    y.observe(true);
    int first = y.encode();
    check.due("encode, a text that repeats is short", true, () -> first < 30);
    long state = y.digest();
    check.due("encode again, the same size", first, y::encode);
    check.due("encode again, the same state", state, y::digest);
    check.due("encode, nothing was decoded", 0, y::outputSize);
    check.due("encode, leaves the predictor behind the text", 640, y::observed);
    check.due("encode, decodes", 0, () -> y.decode(80));
  }

  // Promise 26
  private static void codeSize() {
    BitMixer x = new BitMixer();
    check.due("codeSize of nothing", 0, x::codeSize);
    x.encode();
    check.due("codeSize behind encode", 4, x::codeSize);
    x.fill(255, 1);
    check.due("codeSize behind fill", 4, x::codeSize);
    x.encode();
    check.due("codeSize behind the next encode", 5, x::codeSize);
    x.cutCode(2);
    check.due("codeSize behind cutCode", 3, x::codeSize);
    x.decode(10);
    check.due("codeSize behind decode", 3, x::codeSize);
  }

  // Promise 27
  private static void code() {
    BitMixer x = new BitMixer();
    check.refused("code of nothing", x, INDEX, () -> x.code(0));
    x.fill(0, 1);
    x.encode();
    check.due("code 0", 0xFE, () -> x.code(0));
    check.due("code 3", 0x08, () -> x.code(3));
    check.refused("code 4", x, INDEX, () -> x.code(4));
    for (int far : FAR) {
      check.refused("code " + far, x, INDEX, () -> x.code(far));
    }
    x.cutCode(1);
    check.refused("code 3 behind cutCode", x, INDEX, () -> x.code(3));
  }

  // Promise 28
  private static void setCode() {
    BitMixer x = new BitMixer();
    check.refused("setCode of nothing", x, INDEX, () -> x.setCode(0, 0));
    x.fill(0, 1);
    x.encode();
    for (int far : FAR) {
      check.refused("setCode at " + far, x, INDEX, () -> x.setCode(far, 0));
      check.refused("setCode at " + far + ", a wrong byte", x, INDEX, () -> x.setCode(far, 256));
      check.refused("setCode to " + far, x, ARGUMENT, () -> x.setCode(0, far));
    }
    check.refused("setCode at 4", x, INDEX, () -> x.setCode(4, 0));
    check.refused("setCode to 256", x, ARGUMENT, () -> x.setCode(0, 256));
    check.due("setCode", 0xFF, () -> x.setCode(1, 0));
    check.due("setCode, the byte before", 0, () -> x.setCode(1, 255));
    check.due("setCode, the byte", 255, () -> x.code(1));
    check.due("setCode, the last", 8, () -> x.setCode(3, 77));
    check.due("setCode, the last byte", 77, () -> x.code(3));
    check.due("setCode, another byte", 0xFE, () -> x.code(0));
    check.due("setCode does not reset", 8, x::observed);
    x.encode();
    check.due("setCode, encode replaces it", 8, () -> x.code(3));
  }

  // Promise 29
  private static void cutCode() {
    BitMixer x = new BitMixer();
    check.due("cutCode nothing of nothing", 0, () -> x.cutCode(0));
    check.refused("cutCode of nothing", x, ARGUMENT, () -> x.cutCode(1));
    x.fill(0, 1);
    x.encode();
    for (int far : FAR) {
      check.refused("cutCode " + far, x, ARGUMENT, () -> x.cutCode(far));
    }
    check.refused("cutCode 5", x, ARGUMENT, () -> x.cutCode(5));
    check.due("cutCode 0", 4, () -> x.cutCode(0));
    check.due("cutCode 3", 1, () -> x.cutCode(3));
    check.due("cutCode leaves the first", 0xFE, () -> x.code(0));
    check.due("cutCode does not reset", 8, x::observed);
    check.due("cutCode the rest", 0, () -> x.cutCode(1));
    check.due("cutCode leaves the text", 1, x::size);
  }

  // Promise 30
  private static void decode() {
    BitMixer x = new BitMixer();
    for (int far : FAR) {
      check.refused("decode " + far, x, ARGUMENT, () -> x.decode(far));
    }
    check.refused("decode 81", x, ARGUMENT, () -> x.decode(81));
    // x is 0, which is never greater than the middle: ones alone
    check.due("decode of no code", 3, () -> x.decode(3));
    check.due("decode of no code, output", 255, () -> x.output(2));
    x.fill(255, 2);
    check.due("decode, one place too many", 1, () -> x.decode(3));
    check.due("decode, one place too few", 1, () -> x.decode(1));
    check.due("decode nothing", 2, () -> x.decode(0));
    check.due("decode nothing, the predictor is reset", 0, x::observed);
    check.due("decode 80", 78, () -> x.decode(80));
    x.cut(1);
    x.feed(0x0102030405060708L, 8);
    check.due("decode, places that differ", 8, () -> x.decode(9));
    x.addModel(1, 3, 6);
    x.addModel(3, 2, 9);
    x.addModel(0, 6, 8);
    x.encode();
    x.observe(true);
    check.due("decode of its own code", 0, () -> x.decode(9));
    check.due("decode of its own code, output", 7, () -> x.output(7));
    long state = x.digest();
    x.encode();
    check.due("decode, the state is as behind the encoding", state, x::digest);
    check.due("decode of a part", 4, () -> x.decode(5));
    check.due("decode, observed", 40, x::observed);
  }

  private static void decodeOfChangedCode() {
    BitMixer x = new BitMixer();
    x.fill(0, 1);
    x.encode();
    // without models the middle is 0x7FFFF800 first, and a one is what is not greater
    x.setCode(0, 0x7F);
    x.setCode(1, 0xFF);
    x.setCode(2, 0xF8);
    x.setCode(3, 0x00);
    x.decode(1);
    check.due("decode, x is the middle", 128, () -> x.output(0) & 128);
    x.setCode(3, 0x01);
    x.decode(1);
    check.due("decode, x is one more than the middle", 0, () -> x.output(0) & 128);
    x.setCode(0, 0xFE);
    x.setCode(1, 0xFF);
    x.setCode(2, 0xF8);
    x.setCode(3, 0x08);
    check.due("decode of the code put back", 0, () -> x.decode(1));
    x.cutCode(2);
    x.decode(1);
    // 0xFEFF0000 is less than 0xFEFFF808, so the last bit is a one
    check.due("decode of a cut code", 1, () -> x.output(0));
  }

  /**
   * A zero and 20 ones without models: low is 0x7FFFF801 and high 0x80000001, too near for a
   * middle between them. One more one makes them equal, and all four bytes go out at once.
   */
  private static void narrowInterval() {
    BitMixer x = new BitMixer();
    x.feed(0x7FFFFFL, 3);
    check.due("narrow interval, size", 8, x::encode);
    int[] due = {0x7F, 0xFF, 0xF8, 0x01, 0, 0, 0, 0};
    for (int i = 0; i < due.length; i++) {
      int at = i;
      check.due("narrow interval, code " + at, due[at], () -> x.code(at));
    }
    check.due("narrow interval, decoded", 0, () -> x.decode(3));
    // a zero instead, and two more: low grows by one each time and stays below 0x80000000
    x.cut(1);
    x.feed(0xF8, 1);
    check.due("narrow interval, zeros, size", 4, x::encode);
    check.due("narrow interval, zeros, code 0", 0x7F, () -> x.code(0));
    check.due("narrow interval, zeros, code 2", 0xF8, () -> x.code(2));
    check.due("narrow interval, zeros, code 3", 0x04, () -> x.code(3));
    check.due("narrow interval, zeros, decoded", 0, () -> x.decode(3));
  }

  // Promise 31
  private static void outputSize() {
    BitMixer x = new BitMixer();
    check.due("outputSize of none", 0, x::outputSize);
    x.decode(80);
    check.due("outputSize 80", 80, x::outputSize);
    x.decode(7);
    check.due("outputSize 7", 7, x::outputSize);
    check.refused("decode wrongly", x, ARGUMENT, () -> x.decode(-1));
    x.encode();
    x.reset();
    check.due("outputSize behind encode and reset", 7, x::outputSize);
    x.decode(0);
    check.due("outputSize 0", 0, x::outputSize);
  }

  // Promise 32
  private static void output() {
    BitMixer x = new BitMixer();
    check.refused("output of none", x, INDEX, () -> x.output(0));
    x.feed(0x41FF00L, 3);
    x.encode();
    x.decode(3);
    check.due("output 0", 0x41, () -> x.output(0));
    check.due("output 1", 0xFF, () -> x.output(1));
    check.due("output 2", 0, () -> x.output(2));
    check.refused("output 3", x, INDEX, () -> x.output(3));
    for (int far : FAR) {
      check.refused("output " + far, x, INDEX, () -> x.output(far));
    }
    x.cut(3);
    check.due("output behind cut", 0x41, () -> x.output(0));
    x.decode(1);
    check.due("output of a shorter decoding", "throws." + INDEX, () -> x.output(1));
  }

  // Promise 33
  private static void ratio() {
    BitMixer x = new BitMixer();
    check.due("ratio of nothing", 0.0, x::ratio);
    x.encode();
    check.due("ratio of an empty text", 0.0, x::ratio);
    x.fill(255, 3);
    check.due("ratio", 4.0 / 3.0, x::ratio);
    x.cutCode(4);
    check.due("ratio of an empty code", 0.0, x::ratio);
    x.cut(2);
    x.encode();
    check.due("ratio behind encode", 5.0, x::ratio);
  }

  // Promise 34
  private static void digest() {
    BitMixer x = new BitMixer();
    x.feed(0x00FFL, 2);
    check.due("digest of a text", digestOf(0, 2, 0, 255, 1, 0, 0, 0, 0), x::digest);
    x.encode();
    x.cut(1);
    x.cutCode(3);
    x.decode(1);
    // x is 0xFE000000, and the bits are 0000 0001
    check.due("digest of a code", digestOf(0, 1, 0, 1, 8, 8 * 2048, 1, 0xFE, 1, 1), x::digest);
    check.due("digest changes nothing", x.digest(), x::digest);
    BitMixer y = new BitMixer();
    y.addModel(0, 2, 4);
    y.addModel(3, 5, 9);
    check.due("digest of models", digestOf(2,
        0, 2, 4, 256, 256, 256, 256, 256, 256, 256, 256, 0,
        3, 5, 9, 256, 256, 256, 256, 256, 256, 256, 256, 0,
        0, 1, 0, 0, 0, 0), y::digest);
    observeBits(y, "11111111" + "1");
    // in phase 4 to 7 the small table's counter 15 has learned already, in a byte that it shares
    check.due("digest of what was learned", digestOf(2,
        0, 2, 4, y.weight(0, 0), y.weight(0, 1), 256, 256, y.weight(0, 4), y.weight(0, 5), y.weight(0, 6),
        y.weight(0, 7), 4,
        3, 5, 9, y.weight(1, 0), y.weight(1, 1), 256, 256, y.weight(1, 4), y.weight(1, 5), y.weight(1, 6),
        y.weight(1, 7), 0,
        0, 3, 9, y.error(), 0, 0), y::digest);
    check.due("digest, such a weight", 273, () -> y.weight(0, 4));
    check.due("digest, the other one", 239, () -> y.weight(1, 4));
  }

  /** The calls of the longest life, the dearest ones among them. */
  private static void afterManyCalls() {
    BitMixer x = new BitMixer();
    for (int model = 0; model < 6; model++) {
      x.addModel(model % 4, 2 + model, 4 + model);
    }
    x.fill(170, 80);
    int code = x.encode();
    for (int i = 0; i < 240; i++) {
      check.due("encode in a long life", code, x::encode);
      check.due("decode in a long life", 0, () -> x.decode(80));
    }
  }
}
