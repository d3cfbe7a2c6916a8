import java.lang.reflect.Modifier;
import java.util.stream.Stream;

/** The description, sentence by sentence, but for its arithmetic coder. */
final class DescriptionEdges {
  private static final String ONES = "11111111";
  private static final String ZEROS = "00000000";

  private final Sentences s;

  DescriptionEdges(Sentences s) {
    this.s = s;
  }

  void run() {
    text();
    bitsOfAByte();
    models();
    shapesOfModels();
    counters();
    history();
    node();
    phase();
    context();
    look();
    weights();
    mixedPrediction();
    orderOfLearning();
    error();
    quality();
    learnWeights();
    learnCounters();
    collisions();
    nextNode();
    reset();
    nothingChanges();
    firstException();
    promises();
  }

  private static BitMixer withModels(int order, int t, int... rates) {
    BitMixer x = new BitMixer();
    for (int rate : rates) {
      x.addModel(order, rate, t);
    }
    return x;
  }

  private static BitMixer seen(int order, int t, int rate, String bits) {
    return Scene.observing(withModels(order, t, rate), bits);
  }

  private static BitMixer encoded(BitMixer x, int value, int many) {
    x.fill(value, many);
    x.encode();
    return x;
  }

  private void text() {
    s.says("Description",
        "A text is a sequence of at most 80 bytes, 0 to 255, whose places are numbered from 0.");
    BitMixer x = new BitMixer();
    for (int i = 0; i < 80; i++) {
      x.feed(i % 2 == 0 ? i : 255 - i, 1);
    }
    s.due("80 bytes", 80, x::size);
    s.due("the first place", 0, () -> x.byteAt(0));
    s.due("the second place", 254, () -> x.byteAt(1));
    s.due("the last place", 255 - 79, () -> x.byteAt(79));
    s.due("no place behind the last", "throws." + Sentences.INDEX, () -> x.byteAt(80));
    s.due("no place ahead of the first", "throws." + Sentences.INDEX, () -> x.byteAt(-1));
    s.due("no 81st byte by feed", "throws." + Sentences.STATE, () -> x.feed(0, 1));
    s.due("no 81st byte by fill", "throws." + Sentences.STATE, () -> x.fill(0, 1));
    for (int i = 0; i <= 255; i++) {
      int value = i;
      BitMixer one = new BitMixer();
      one.fill(value, 1);
      s.due("the byte " + value, value, () -> one.byteAt(0));
    }
  }

  private void bitsOfAByte() {
    s.says("Description", "The bits of a byte are taken from the highest one to the lowest one.");
    // without models the first bit halves the whole: a one goes to below 0x80000000, a zero above
    s.due("128 begins with a one", 0x7E, () -> encoded(new BitMixer(), 128, 1).code(0));
    s.due("1 begins with zeros", 0xFD, () -> encoded(new BitMixer(), 1, 1).code(0));
    s.due("128 is observed as such", 128, () -> encoded(new BitMixer(), 128, 1).history(0));
    s.due("1 is observed as such", 1, () -> encoded(new BitMixer(), 1, 1).history(0));
    BitMixer x = encoded(withModels(0, 9, 2), 128, 1);
    s.due("128, the one is seen at node 1", 2560, () -> x.counter(0, 1));
    s.due("128, a zero is seen at node 3", 1536, () -> x.counter(0, 3));
    s.due("128, the last zero is seen at node 192", 1536, () -> x.counter(0, 192));
    BitMixer decoded = encoded(new BitMixer(), 0, 1);
    decoded.setCode(0, 0x7E);
    decoded.decode(1);
    s.due("a one that is decoded first is the highest bit", 128, () -> decoded.output(0) & 128);
  }

  private void models() {
    s.says("Description", "There are at most 6 models, numbered from 0 in the order of their creation.");
    BitMixer x = new BitMixer();
    for (int i = 0; i < 6; i++) {
      int rate = 7 - i;
      s.due("the number", i, () -> x.addModel(0, rate, 4));
    }
    s.due("no seventh", "throws." + Sentences.STATE, () -> x.addModel(0, 2, 4));
    s.due("six", 6, x::modelCount);
    for (int i = 0; i < 6; i++) {
      int model = i;
      s.due("the model with the number " + model, 7 - model, () -> x.setRate(model, 2));
    }
    s.due("none with the number 6", "throws." + Sentences.INDEX, () -> x.setRate(6, 2));
    s.due("none with the number -1", "throws." + Sentences.INDEX, () -> x.setRate(-1, 2));
  }

  private void shapesOfModels() {
    s.says("Description", "A model has an order from 0 to 3, a rate from 2 to 7, and a table with 2^t counters, "
        + "numbered from 0, where t is 4 to 9.");
    int[] contexts = {0, 1, 258, 66307};
    for (int order = 0; order <= 3; order++) {
      for (int rate = 2; rate <= 7; rate++) {
        for (int t = 4; t <= 9; t++) {
          int size = 1 << t;
          int looksAt = (73 * contexts[order] + 1) % size;
          BitMixer x = seen(order, t, rate, "");
          String what = "order " + order + ", rate " + rate + ", t " + t;
          s.due(what + ", the order shows in what it looks at", looksAt, () -> x.index(0));
          s.due(what + ", the first counter", 2048, () -> x.counter(0, 0));
          s.due(what + ", the last counter", 2048, () -> x.counter(0, size - 1));
          s.due(what + ", no counter behind it", "throws." + Sentences.INDEX, () -> x.counter(0, size));
          x.observe(false);
          s.due(what + ", the rate shows in what it learns", 2048 - (2048 >> rate), () -> x.counter(0, looksAt));
        }
      }
    }
    for (int[] wrong : new int[][] {{-1, 2, 4}, {4, 2, 4}, {0, 1, 4}, {0, 8, 4}, {0, 2, 3}, {0, 2, 10}}) {
      s.due("no such model", "throws." + Sentences.ARGUMENT,
          () -> new BitMixer().addModel(wrong[0], wrong[1], wrong[2]));
    }
  }

  private void counters() {
    s.says("Description", "A counter has a value from 1 to 4095, 2048 at first; this is a probability, in parts of "
        + "4096, that the next bit is 1.");
    BitMixer fresh = withModels(3, 8, 2);
    for (int i = 0; i < 256; i++) {
      int index = i;
      s.due("at first, counter " + index, 2048, () -> fresh.counter(0, index));
    }
    for (int rate = 2; rate <= 7; rate++) {
      // the nodes from 15 on share counter 15 of 16, those from 16 on counter 0: enough bits to settle
      BitMixer ones = Scene.observing(encoded(withModels(0, 4, rate), 255, 80), ONES.repeat(40));
      s.due("the greatest value, rate " + rate, 4097 - (1 << rate), () -> ones.counter(0, 15));
      s.due("it was settled", 4097 - (1 << rate), () -> Scene.observing(ones, ONES).counter(0, 15));
      BitMixer zeros = Scene.observing(encoded(withModels(0, 4, rate), 0, 80), ZEROS.repeat(40));
      s.due("the least value, rate " + rate, (1 << rate) - 1, () -> zeros.counter(0, 0));
      s.due("it was settled", (1 << rate) - 1, () -> Scene.observing(zeros, ZEROS).counter(0, 0));
    }
    s.due("a one makes it greater", 2560, () -> seen(0, 9, 2, "1").counter(0, 1));
    s.due("a zero makes it smaller", 1536, () -> seen(0, 9, 2, "0").counter(0, 1));
  }

  private void history() {
    s.says("Description", "The history consists of the three latest whole bytes (0 at first).");
    BitMixer x = new BitMixer();
    historyIs("at first", x, 0, 0, 0);
    Scene.observing(x, "0000000");
    historyIs("seven bits", x, 0, 0, 0);
    Scene.observing(x, "1");
    historyIs("one byte", x, 1, 0, 0);
    Scene.observing(x, "00000010" + "00000011");
    historyIs("three bytes", x, 3, 2, 1);
    Scene.observing(x, "00000100");
    historyIs("a fourth byte", x, 4, 3, 2);
    Scene.observing(x, ONES + ZEROS + ONES);
    historyIs("three others", x, 255, 0, 255);
    BitMixer behind = new BitMixer();
    behind.feed(0x0506070809L, 5);
    behind.encode();
    historyIs("of a text", behind, 9, 8, 7);
    behind.decode(2);
    historyIs("of two bytes decoded", behind, 6, 5, 0);
  }

  private void historyIs(String what, BitMixer x, int... due) {
    for (int i = 0; i < 3; i++) {
      int back = i;
      s.due(what + ", history(" + back + ")", due[back], () -> x.history(back));
    }
  }

  private void node() {
    s.says("Description", "The node is 1 at the beginning of each byte; when a bit b follows, the node becomes 2 * "
        + "node + b; if it is 256 or more then, a byte is whole: the node minus 256 becomes the latest byte of the "
        + "history, the oldest one is forgotten, and the node becomes 1.");
    for (int i = 0; i <= 255; i++) {
      BitMixer x = Scene.observing(new BitMixer(), "00000001" + "00000010" + "00000011");
      int value = i;
      String bits = Integer.toBinaryString(256 + value).substring(1);
      for (int many = 0; many < 8; many++) {
        int due = (256 + value) >> (8 - many);
        s.due("the byte " + value + ", " + many + " bits", due, x::node);
        Scene.observing(x, bits.substring(many, many + 1));
      }
      s.due("the byte " + value + ", whole", 1, x::node);
      historyIs("the byte " + value, x, value, 3, 2);
    }
    BitMixer most = Scene.observing(new BitMixer(), "1111111");
    s.due("255 is not whole", 255, most::node);
    historyIs("255 is not whole", most, 0, 0, 0);
    BitMixer least = Scene.observing(new BitMixer(), ONES + "0000000");
    s.due("128 is not whole", 128, least::node);
    historyIs("128 is not whole", least, 255, 0, 0);
    least.observe(false);
    s.due("256 is whole", 1, least::node);
    historyIs("256 is whole", least, 0, 255, 0);
  }

  private void phase() {
    s.says("Description", "The phase is the number of bits of the present byte that are known, 0 to 7.");
    for (int i = 0; i < 10; i++) {
      int bits = i;
      BitMixer x = Scene.observing(withModels(0, 9, 2, 7), ONES + "1".repeat(bits + 1));
      for (int j = 0; j < 8; j++) {
        int phase = j;
        // each bit of the second byte, and no other one, makes the quick model's weight 273; the third's 291
        int due = phase + 8 <= bits ? 291 : phase <= bits ? 273 : 256;
        s.due("a bit in phase " + (bits % 8) + ", the weight in phase " + phase, due, () -> x.weight(0, phase));
      }
    }
    s.due("no phase 8", "throws." + Sentences.INDEX, () -> withModels(0, 9, 2).weight(0, 8));
    s.due("no phase -1", "throws." + Sentences.INDEX, () -> withModels(0, 9, 2).weight(0, -1));
  }

  private static String byteBits(int... bytes) {
    StringBuilder all = new StringBuilder();
    for (int value : bytes) {
      all.append(Integer.toBinaryString(256 + value), 1, 9);
    }
    return all.toString();
  }

  private void context() {
    s.says("Description", "The context of a model is a number c: it is 0 at first; then, for each of as many of the "
        + "latest bytes as the order says, from the latest one on, c becomes 257 * c + 1 + this byte.");
    int[][] histories = {{0, 0, 0}, {255, 255, 255}, {1, 2, 3}, {255, 0, 0}, {0, 255, 0}, {0, 0, 255}, {128, 64, 7}};
    for (int[] latest : histories) {
      long c = 0;
      for (int order = 0; order <= 3; order++) {
        int due = (int) ((73 * c + 1) % 512);
        BitMixer x = seen(order, 9, 2, byteBits(99, latest[2], latest[1], latest[0]));
        s.due("order " + order + " behind " + latest[2] + ", " + latest[1] + ", " + latest[0], due, () -> x.index(0));
        c = order < 3 ? 257 * c + 1 + latest[order] : c;
      }
    }
    s.due("order 0 does not look back", 1, () -> seen(0, 9, 2, byteBits(1, 2, 3)).index(0));
    s.due("order 1 looks at no more than one", seen(1, 9, 2, byteBits(1, 2, 3)).index(0),
        () -> seen(1, 9, 2, byteBits(7, 8, 3)).index(0));
    s.due("order 2 looks at no more than two", seen(2, 9, 2, byteBits(1, 2, 3)).index(0),
        () -> seen(2, 9, 2, byteBits(7, 2, 3)).index(0));
    s.due("order 3 looks at no more than three", seen(3, 9, 2, byteBits(5, 1, 2, 3)).index(0),
        () -> seen(3, 9, 2, byteBits(9, 1, 2, 3)).index(0));
    s.due("a byte that is not whole is not in it", (73 * 1 + 255) % 512, () -> seen(1, 9, 2, "1111111").index(0));
  }

  private void look() {
    s.says("Description", "The counter that the model looks at has the number (73 * c + node) mod 2^t; its value is "
        + "the prediction of the model.");
    for (int t = 4; t <= 9; t++) {
      int size = 1 << t;
      for (int many = 0; many < 8; many++) {
        BitMixer zeros = seen(0, t, 2, "0".repeat(many));
        s.due("node " + (1 << many) + ", t " + t, (1 << many) % size, () -> zeros.index(0));
        BitMixer ones = seen(0, t, 2, "1".repeat(many));
        s.due("node " + ((2 << many) - 1) + ", t " + t, ((2 << many) - 1) % size, () -> ones.index(0));
        // c is 257 * (257 * 256 + 256) + 256 behind three bytes 255, the greatest there is
        BitMixer far = seen(3, t, 2, ONES.repeat(3) + "1".repeat(many));
        int due = (int) ((73L * 16974592L + (2 << many) - 1) % size);
        s.due("the greatest context, t " + t, due, () -> far.index(0));
        s.due("its prediction, t " + t, far.counter(0, due), () -> far.prediction(0));
      }
    }
    // at node 31 a table of 16 looks at what node 15 taught it, a table of 32 does not
    s.due("the prediction of a shared counter", 2560, () -> seen(0, 4, 2, "1111").prediction(0));
    s.due("the prediction of a counter of its own", 2048, () -> seen(0, 5, 2, "1111").prediction(0));
  }

  private void weights() {
    s.says("Description", "For each phase and each model there is a weight from 1 to 60000, 256 at first.");
    BitMixer x = withModels(1, 4, 2, 3, 4, 5, 6, 7);
    for (int i = 0; i < 48; i++) {
      int model = i / 8;
      int phase = i % 8;
      s.due("at first, model " + model + ", phase " + phase, 256, () -> x.weight(model, phase));
    }
    BitMixer far = longTaught(2, 7);
    for (int i = 0; i < 8; i++) {
      int phase = i;
      s.due("the greatest, phase " + phase, 60000, () -> far.weight(0, phase));
      s.due("the least, phase " + phase, 1, () -> far.weight(1, phase));
    }
  }

  /** Models that have seen 120 bytes of ones: what is better has the greatest weight, what is worse the least. */
  private static BitMixer longTaught(int... rates) {
    return Scene.observing(encoded(withModels(0, 9, rates), 255, 80), ONES.repeat(40));
  }

  private void mixedPrediction() {
    s.says("Description", "The mixed prediction is the sum of the products of the weights in the present phase and "
        + "the predictions of all models, divided by the sum of these weights, rounded down, but at least 1 and at "
        + "most 4095; without models it is 2048.");
    s.due("without models", 2048, () -> new BitMixer().mixed());
    s.due("without models, whatever was observed", 2048, () -> Scene.observing(new BitMixer(), ONES + "11").mixed());
    BitMixer gone = seen(0, 9, 2, ONES);
    gone.removeModel();
    s.due("the only model removed", 2048, gone::mixed);
    s.due("of one model", 2560, () -> seen(0, 9, 2, ONES).mixed());
    // 2560 and 2064 with equal weights; then 2944 and 2079 with 273 and 239
    BitMixer x = Scene.observing(withModels(0, 9, 2, 7), ONES);
    s.due("of equal weights", 2312, x::mixed);
    Scene.observing(x, ONES);
    s.due("of other weights, rounded down", 2540, x::mixed);
    s.due("of other weights, what was rounded", true, () -> (273 * 2944 + 239 * 2079) % 512 == 113);
    // 239 * 2402 + 273 * 2703 + 239 * 2231 is 751 * 2457 - 1
    BitMixer three = Scene.observing(withModels(0, 4, 5, 4, 6), "1".repeat(12));
    s.due("a sum that is one less than a whole multiple", 2456, three::mixed);
    s.due("the weight of that sum", 273, () -> three.weight(1, 4));
    s.due("the prediction of that sum", 2703, () -> three.prediction(1));
    s.due("the least", 3, () -> encoded(withModels(0, 9, 2), 0, 80).mixed());
    s.due("the least of six", 3, () -> encoded(withModels(0, 9, 2, 2, 2, 2, 2, 2), 0, 80).mixed());
    s.due("the greatest", 4093, () -> encoded(withModels(0, 9, 2), 255, 80).mixed());
    s.due("the greatest of six", 4093, () -> encoded(withModels(0, 9, 2, 2, 2, 2, 2, 2), 255, 80).mixed());
    BitMixer heavy = longTaught(2, 2, 2, 2, 2, 7);
    int least = heavy.prediction(5);
    s.due("of the greatest weights", (int) ((5L * 60000 * 4093 + least) / (5 * 60000 + 1)), heavy::mixed);
    s.due("of the greatest weights, such a weight", 60000, () -> heavy.weight(4, 0));
  }

  private void orderOfLearning() {
    s.says("Description", "When a bit b is observed, this happens in the following order:");
    BitMixer x = Scene.observing(withModels(0, 9, 2, 7), ONES);
    x.observe(true);
    // of 2312, as mixed ahead of the learning; with weights or counters that have learned it would be more
    s.due("the error is that of the mixture ahead of the learning", 8 * 2048 + 4096 - 2312, x::error);
    s.due("the weight's phase is the one ahead of the bit", 273, () -> x.weight(0, 0));
    s.due("the next phase is left", 256, () -> x.weight(0, 1));
    s.due("the counter is the one ahead of the bit", 2944, () -> x.counter(0, 1));
    s.due("the next one is left", 2560, () -> x.counter(0, 3));
    // a counter that learned first would be 2048 - 512 or 2048 + 512 and change the weights
    BitMixer first = Scene.observing(withModels(0, 9, 2, 7), "1");
    s.due("the weights are judged ahead of the counters' learning", 256, () -> first.weight(0, 0));
    // the last bit of a byte is learned at its own node and in its own context
    BitMixer last = seen(1, 9, 2, ONES);
    s.due("the last bit of a byte, in the context ahead of it", 2560, () -> last.counter(0, (73 + 255) % 512));
    s.due("the last bit of a byte, then the context is another one", (73 * 256 + 1) % 512, () -> last.index(0));
  }

  private void error() {
    s.says("Description", "The error increases by 4096 minus the quality of the mixed prediction.");
    s.due("without models, a one", 2048, () -> Scene.observing(new BitMixer(), "1").error());
    s.due("without models, a zero", 2048, () -> Scene.observing(new BitMixer(), "0").error());
    for (int value : new int[] {0, 255}) {
      boolean isOne = value == 255;
      BitMixer right = encoded(withModels(0, 9, 2), value, 80);
      long before = right.error();
      right.observe(isOne);
      s.due("the least, of " + value, before + 3, right::error);
      BitMixer wrong = encoded(withModels(0, 9, 2), value, 80);
      wrong.observe(!isOne);
      s.due("the greatest, of " + value, before + 4093, wrong::error);
    }
    BitMixer two = Scene.observing(withModels(0, 9, 2, 7), ONES + "0");
    s.due("of two models it is the mixed one's", 8 * 2048 + 2312, two::error);
  }

  private void quality() {
    s.says("Description", "The quality of a prediction p is p if b is 1, and 4096 - p if b is 0.");
    s.due("b is 1", 2560, () -> seen(0, 9, 2, ONES).observe(true));
    s.due("b is 0", 4096 - 2560, () -> seen(0, 9, 2, ONES).observe(false));
    s.due("b is 1, p is small", 1536, () -> seen(0, 9, 2, ZEROS).observe(true));
    s.due("b is 0, p is small", 4096 - 1536, () -> seen(0, 9, 2, ZEROS).observe(false));
    s.due("b is 1, p is the least", 3, () -> encoded(withModels(0, 9, 2), 0, 80).observe(true));
    s.due("b is 0, p is the least", 4093, () -> encoded(withModels(0, 9, 2), 0, 80).observe(false));
  }

  private static int up(int w) {
    return Math.min(60000, w + w / 16 + 1);
  }

  private static int down(int w) {
    return Math.max(1, w - w / 16 - 1);
  }

  private void learnWeights() {
    s.says("Description", "For each model, its weight w in the present phase: if the quality of its prediction is "
        + "greater than that of the mixed prediction of step 1 (the same one for all models), w becomes w + w / 16 + "
        + "1 (rounded down, and at most 60000); if it is less, w becomes w - w / 16 - 1 (w / 16 rounded down, and at "
        + "least 1).");
    int better = 256;
    int worse = 256;
    for (int bytes = 1; bytes <= 80; bytes++) {
      BitMixer x = encoded(withModels(0, 9, 2, 7), 255, bytes);
      s.due("the better one behind " + bytes + " bytes", better, () -> x.weight(0, 0));
      s.due("the worse one behind " + bytes + " bytes", worse, () -> x.weight(1, 0));
      better = up(better);
      worse = down(worse);
    }
    weightsAtTheirBounds();
    weightsOfEqualQualities();
  }

  private void weightsAtTheirBounds() {
    BitMixer x = longTaught(2, 7);
    s.due("the most", 60000, () -> x.weight(0, 0));
    s.due("the least", 1, () -> x.weight(1, 0));
    x.observe(true);
    s.due("the most stays", 60000, () -> x.weight(0, 0));
    s.due("the least stays", 1, () -> x.weight(1, 0));
    Scene.observing(x, "1111111");
    x.observe(false);
    s.due("down from the most", 60000 - 3750 - 1, () -> x.weight(0, 0));
    s.due("up from the least", 2, () -> x.weight(1, 0));
    // now the quick model predicts 3070, the slow one more; with so little weight that the mixture is 3070, too
    Scene.observing(x, "1111111");
    s.due("the mixture, rounded down", 3070, x::mixed);
    x.observe(true);
    s.due("as good as what was rounded down", 60000 - 3750 - 1, () -> x.weight(0, 0));
    s.due("up from the least, twice", 3, () -> x.weight(1, 0));
  }

  private void weightsOfEqualQualities() {
    s.due("one model alone is as good as the mixture", 256, () -> encoded(withModels(0, 9, 2), 255, 80).weight(0, 0));
    s.due("two alike are as good as the mixture", 256,
        () -> encoded(withModels(0, 9, 2, 2), 255, 80).weight(1, 0));
    // 2560, 2304 and twice 2176 are mixed to 2304; the first one's greater weight would make it 2308
    for (String bit : new String[] {"1", "0"}) {
      boolean isOne = bit.equals("1");
      BitMixer x = Scene.observing(withModels(0, 9, 2, 3, 4, 4), ONES + bit);
      s.due("the same mixture for all models, the first, bit " + bit, isOne ? 273 : 239, () -> x.weight(0, 0));
      s.due("the same mixture for all models, the second, bit " + bit, 256, () -> x.weight(1, 0));
      s.due("the same mixture for all models, the last, bit " + bit, isOne ? 239 : 273, () -> x.weight(3, 0));
    }
  }

  private void learnCounters() {
    s.says("Description", "For each model, the counter that it looks at, with the value p and the rate r: if b is 1, "
        + "p becomes p + (4096 - p) / 2^r; if b is 0, p becomes p - p / 2^r (quotients rounded down).");
    for (int rate = 2; rate <= 7; rate++) {
      int ones = 2048;
      int zeros = 2048;
      for (int bytes = 1; bytes <= 80; bytes++) {
        ones += Math.floorDiv(4096 - ones, 1 << rate);
        zeros -= Math.floorDiv(zeros, 1 << rate);
        int high = ones;
        int low = zeros;
        int r = rate;
        int many = bytes;
        s.due("rate " + rate + ", ones " + bytes, high, () -> encoded(withModels(0, 9, r), 255, many).counter(0, 1));
        s.due("rate " + rate + ", zeros " + bytes, low, () -> encoded(withModels(0, 9, r), 0, many).counter(0, 1));
      }
    }
    BitMixer x = Scene.observing(withModels(0, 9, 2, 3, 4, 5, 6, 7), "1");
    for (int i = 0; i < 6; i++) {
      int model = i;
      s.due("each model by its own rate, " + model, 2048 + (2048 >> (2 + model)), () -> x.counter(model, 1));
      s.due("no other counter, " + model, 2048, () -> x.counter(model, 0));
    }
  }

  private void collisions() {
    s.says("Description", "If this counter was looked at for an observed bit before, and the latest time c or the "
        + "node was another one, that is a collision of the model.");
    s.due("the first time", 0, () -> seen(0, 4, 2, "1111").collisions(0));
    s.due("another node", 1, () -> seen(0, 4, 2, "11111").collisions(0));
    // the nodes 48, 96 and 192 share counter 0, but none shares counter 1 with node 1
    s.due("the same node is to come", 2, () -> seen(0, 4, 2, byteBits(0x80)).collisions(0));
    s.due("the same node", 2, () -> seen(0, 4, 2, byteBits(0x80) + "1").collisions(0));
    s.due("the latest time alone counts", 9, () -> seen(0, 4, 2, ONES + ONES).collisions(0));
    s.due("tables of 256 have a counter for each node", 0, () -> encoded(withModels(0, 8, 2), 0x5A, 80).collisions(0));
    // behind 2 and then 0, c is 772 and then 260, and 512 counters cannot tell them apart
    String bytes = byteBits(2, 0);
    s.due("another c is to come", 0, () -> seen(2, 9, 2, bytes).collisions(0));
    s.due("another c and the same node", 1, () -> seen(2, 9, 2, bytes + "0").collisions(0));
    s.due("another c and the same nodes", 8, () -> seen(2, 9, 2, bytes + ZEROS).collisions(0));
    s.due("the same c and the same nodes", 0, () -> seen(3, 9, 2, ZEROS.repeat(5)).collisions(0));
    // behind 1 and 0: 73 * c + node is 147 for c 2 and node 1, and again for c 1 and node 74
    s.due("the same 73 * c + node is to come", 0, () -> seen(1, 9, 2, byteBits(1, 0) + "001010").collisions(0));
    s.due("the same 73 * c + node", 1, () -> seen(1, 9, 2, byteBits(1, 0) + "0010100").collisions(0));
    // c + node is 256 for c 1 and node 255, and again for c 255 and node 1; both look at counter 8 of 16
    s.due("the same c + node is to come", 4, () -> seen(1, 4, 2, byteBits(254)).collisions(0));
    s.due("the same c + node", 5, () -> seen(1, 4, 2, byteBits(254) + "1").collisions(0));
    // c is 16843524 behind 0, 3, 254, and 2^24 less behind 1, 0, 0: 256 * c and a node do not fit 32 bits
    String far = byteBits(0, 3, 254, 1, 0, 0);
    s.due("a c that is 2^24 less is to come", 0, () -> seen(3, 9, 2, far).collisions(0));
    s.due("a c that is 2^24 less", 1, () -> seen(3, 9, 2, far + "0").collisions(0));
    BitMixer looked = seen(0, 4, 2, "1111");
    looked.prediction(0);
    looked.index(0);
    looked.mixed();
    looked.counter(0, 15);
    looked.observe(false);
    s.due("looks without a bit do not count", 1, () -> looked.collisions(0));
    BitMixer two = new BitMixer();
    two.addModel(0, 2, 9);
    two.addModel(0, 2, 4);
    Scene.observing(two, ONES);
    s.due("it is the one model's", 4, () -> two.collisions(1));
    s.due("it is not the other's", 0, () -> two.collisions(0));
  }

  private void nextNode() {
    s.says("Description", "The node, and perhaps the history, become others, as said above.");
    BitMixer x = Scene.observing(withModels(1, 9, 2), "1111111");
    s.due("the history is left at the seventh bit", 0, () -> x.history(0));
    s.due("the node at the seventh bit", 255, x::node);
    x.observe(false);
    s.due("the history is another one at the eighth", 254, () -> x.history(0));
    s.due("the node at the eighth bit", 1, x::node);
  }

  private void reset() {
    s.says("Description", "A reset brings back the state of the beginning: counters (none of which counts as looked "
        + "at then), weights, history, node, error, the number of bits that were observed, and collisions.");
    Scene begun = new Scene("two models", () -> withModels(1, 4, 2, 7));
    Scene.Act learn = x -> Scene.observing(x, byteBits(255, 16, 255, 1) + "110");
    Scene.Act[] resets = {BitMixer::reset, x -> x.setRate(0, 2), x -> x.decode(0)};
    for (Scene.Act act : resets) {
      s.same("all of it", begun, begun.then("bits", learn).then("a reset", act));
    }
    BitMixer x = withModels(0, 4, 2, 7);
    Scene.observing(x, ONES + ONES + "11");
    x.reset();
    for (int i = 0; i < 16; i++) {
      int index = i;
      s.due("counter " + index, 2048, () -> x.counter(0, index));
    }
    for (int i = 0; i < 8; i++) {
      int phase = i;
      s.due("weight in phase " + phase, 256, () -> x.weight(0, phase));
    }
    historyIs("reset", x, 0, 0, 0);
    s.due("node", 1, x::node);
    s.due("error", 0, x::error);
    s.due("observed", 0, x::observed);
    s.due("collisions", 0, () -> x.collisions(0));
    // counter 15 was looked at for node 255 last, and now for node 15
    Scene.observing(x, "1111");
    s.due("no counter counts as looked at", 0, () -> x.collisions(0));
    s.due("the phase begins anew", 256, () -> Scene.observing(x, "1111").weight(0, 2));
    x.observe(true);
    s.due("the phase begins anew, the ninth bit", 273, () -> x.weight(0, 0));
  }

  private void nothingChanges() {
    s.says("Description", "A method that throws an exception changes nothing.");
    Scene.Act[] thrown = {x -> x.addModel(4, 2, 4), x -> x.addModel(0, 8, 4), x -> x.addModel(0, 2, 10),
        x -> x.setRate(6, 2), x -> x.setRate(0, 1), x -> x.feed(1, 0), x -> x.feed(1, 9), x -> x.fill(256, 1),
        x -> x.fill(1, 81), x -> x.cut(81), x -> x.cut(-1), x -> x.byteAt(80), x -> x.prediction(6),
        x -> x.index(-1), x -> x.counter(0, 512), x -> x.counter(6, 0), x -> x.weight(0, 8), x -> x.weight(6, 0),
        x -> x.collisions(6), x -> x.history(3), x -> x.code(9999), x -> x.setCode(9999, 0), x -> x.setCode(0, 256),
        x -> x.cutCode(9999), x -> x.cutCode(-1), x -> x.decode(81), x -> x.decode(-1), x -> x.output(80)};
    for (Scene scene : Scene.ALL) {
      for (int i = 0; i < thrown.length; i++) {
        Scene.Act act = thrown[i];
        s.due("call " + i + " " + scene.name + " throws", true,
            () -> Check.answerOf(() -> act.on(scene.make())).startsWith("throws."));
        s.changesNothing("call " + i, scene, act);
      }
    }
    s.changesNothing("a seventh model", Scene.SIX, x -> x.addModel(0, 2, 4));
    s.changesNothing("the removal of none", Scene.BARE, BitMixer::removeModel);
    s.changesNothing("an 81st byte by feed", Scene.FULL, x -> x.feed(1, 1));
    s.changesNothing("an 81st byte by fill", Scene.FULL, x -> x.fill(1, 1));
    s.changesNothing("71 bytes for 70 places", Scene.BUSY, x -> x.fill(1, 71));
  }

  private void firstException() {
    s.says("Description", "If several exceptions apply, the one that is named first is thrown.");
    s.refused("addModel, order", Sentences.ARGUMENT, Scene.SIX, x -> x.addModel(4, 2, 4));
    s.refused("addModel, rate", Sentences.ARGUMENT, Scene.SIX, x -> x.addModel(0, 1, 4));
    s.refused("addModel, t", Sentences.ARGUMENT, Scene.SIX, x -> x.addModel(0, 2, 10));
    for (Scene scene : Scene.ALL) {
      s.refused("setRate, model and rate", Sentences.INDEX, scene, x -> x.setRate(6, 8));
      s.refused("setRate, model and rate, both negative", Sentences.INDEX, scene, x -> x.setRate(-1, -1));
      s.refused("setCode, position and value", Sentences.INDEX, scene, x -> x.setCode(9999, 256));
      s.refused("setCode, position and value, both negative", Sentences.INDEX, scene, x -> x.setCode(-1, -1));
    }
    for (int wrong : new int[] {0, 9, -1, Integer.MAX_VALUE, Integer.MIN_VALUE}) {
      s.refused("feed to a full text, many " + wrong, Sentences.ARGUMENT, Scene.FULL, x -> x.feed(1, wrong));
    }
    for (int wrong : new int[] {0, 81, -1, Integer.MAX_VALUE, Integer.MIN_VALUE}) {
      s.refused("fill of a full text, many " + wrong, Sentences.ARGUMENT, Scene.FULL, x -> x.fill(1, wrong));
    }
    s.refused("fill of a full text, value 256", Sentences.ARGUMENT, Scene.FULL, x -> x.fill(256, 1));
    s.refused("fill of a full text, value -1", Sentences.ARGUMENT, Scene.FULL, x -> x.fill(-1, 80));
  }

  private void promises() {
    s.says("Description", "The constructor and the methods follow, a promise each: the signature, then what it does.");
    s.due("one constructor", 1, () -> BitMixer.class.getDeclaredConstructors().length);
    s.due("a method for each of the other 33", 33L, () -> Stream.of(BitMixer.class.getDeclaredMethods())
        .filter(method -> Modifier.isPublic(method.getModifiers())).count());
  }
}
