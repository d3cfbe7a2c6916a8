/** What the document says ahead of its description and behind its promises. */
final class WholeEdges {
  private final Sentences s;

  WholeEdges(Sentences s) {
    this.s = s;
  }

  void run() {
    coder();
    predictor();
    life();
    free();
  }

  /** A model of each order, all with the same rate and large tables. */
  private static BitMixer ofAllOrders() {
    BitMixer x = new BitMixer();
    for (int order = 0; order <= 3; order++) {
      x.addModel(order, 3, 9);
    }
    return x;
  }

  /** "abcabc..." with an "x" in it, 80 bytes. */
  private static BitMixer withText(BitMixer x) {
    for (int i = 0; i < 80; i++) {
      x.feed(i == 40 ? 'x' : 'a' + i % 3, 1);
    }
    return x;
  }

  private void coder() {
    s.says("What it is", "A coder for bytes that predicts each bit by several models with different contexts, mixes "
        + "their predictions by weights that learn, and writes the bits with an arithmetic coder.");
    BitMixer x = withText(ofAllOrders());
    int bare = withText(new BitMixer()).encode();
    s.due("the code is shorter than one without models", true, () -> x.encode() < bare);
    s.due("it is shorter than half of the text", true, () -> x.codeSize() < 40);
    s.due("the contexts are different", false, () -> x.index(0) == x.index(1) || x.index(1) == x.index(2)
        || x.index(2) == x.index(3) || x.index(0) == x.index(3));
    s.due("the weights have learned", false, () -> x.weight(0, 7) == 256 && x.weight(3, 7) == 256);
    s.due("the mixture is no more than the greatest prediction", true, () -> x.mixed() <= most(x));
    s.due("the mixture is no less than the least prediction", true, () -> x.mixed() >= least(x));
    s.due("the text comes back", 0, () -> x.decode(80));
    for (int value = 0; value <= 255; value++) {
      BitMixer one = ofAllOrders();
      one.feed(0x0101010101010101L * value, 8);
      one.fill(255 - value, 9);
      one.encode();
      s.due("bytes " + value + " come back", 0, () -> one.decode(17));
    }
  }

  private static int most(BitMixer x) {
    return Math.max(Math.max(x.prediction(0), x.prediction(1)), Math.max(x.prediction(2), x.prediction(3)));
  }

  private static int least(BitMixer x) {
    return Math.min(Math.min(x.prediction(0), x.prediction(1)), Math.min(x.prediction(2), x.prediction(3)));
  }

  /** The same bits by observe and by encode leave the same predictor. */
  private void predictor() {
    s.says("What it is", "The predictor can also be driven bit by bit and looked into.");
    String bits = "01100001" + "01100010" + "11111111" + "00000000" + "01100001" + "01100010";
    BitMixer driven = Scene.observing(ofAllOrders(), bits);
    BitMixer encoded = ofAllOrders();
    encoded.feed(0x6162FF006162L, 6);
    encoded.encode();
    s.due("observed", encoded.observed(), driven::observed);
    s.due("error", encoded.error(), driven::error);
    s.due("meanError", encoded.meanError(), driven::meanError);
    s.due("mixed", encoded.mixed(), driven::mixed);
    s.due("leader", encoded.leader(), driven::leader);
    s.due("node", encoded.node(), driven::node);
    for (int i = 0; i < 3; i++) {
      int back = i;
      s.due("history " + back, encoded.history(back), () -> driven.history(back));
    }
    for (int i = 0; i < 4; i++) {
      int model = i;
      s.due("prediction " + model, encoded.prediction(model), () -> driven.prediction(model));
      s.due("index " + model, encoded.index(model), () -> driven.index(model));
      s.due("collisions " + model, encoded.collisions(model), () -> driven.collisions(model));
      s.due("counter " + model, encoded.counter(model, 97), () -> driven.counter(model, 97));
      for (int j = 0; j < 8; j++) {
        int phase = j;
        s.due("weight " + model + ", " + phase, encoded.weight(model, phase), () -> driven.weight(model, phase));
      }
    }
  }

  private void life() {
    s.says("What it is",
        "An object is used for at most 512 calls after it has been made; what later calls answer is free.");
    BitMixer bits = new BitMixer();
    Scene.observing(bits, "1".repeat(511));
    s.due("the 512th call behind 511 bits", 511, bits::observed);
    BitMixer models = new BitMixer();
    for (int i = 0; i < 255; i++) {
      models.addModel(3, 7, 9);
      models.removeModel();
    }
    models.addModel(3, 7, 9);
    s.due("the 512th call behind 256 models", 1, models::modelCount);
    BitMixer codes = new BitMixer();
    codes.fill(255, 80);
    for (int i = 0; i < 255; i++) {
      codes.encode();
      codes.decode(80);
    }
    s.due("the 512th call behind 255 encodings and decodings", 84, codes::codeSize);
    BitMixer all = sixModels(3, 9);
    all.fill(170, 80);
    all.encode();
    for (int i = 0; i < 503; i++) {
      all.observe(i % 2 == 0);
    }
    s.due("the 512th call behind all bits that there can be", 640 + 503, all::observed);
    // the same bits, one by one in 504 calls and as a text in two
    BitMixer byBits = sixModels(2, 5);
    Scene.observing(byBits, "01100001".repeat(63));
    long error = byBits.error();
    BitMixer byText = sixModels(2, 5);
    byText.fill(0x61, 63);
    byText.encode();
    s.due("the 511th call behind 504 bits of six models", byText.error(), () -> error);
    s.due("the 512th call behind 504 bits of six models", byText.collisions(5), () -> byBits.collisions(5));
  }

  /** Six models that are alike but for their rates, 2 to 7. */
  private static BitMixer sixModels(int order, int t) {
    BitMixer x = new BitMixer();
    for (int rate = 2; rate <= 7; rate++) {
      x.addModel(order, rate, t);
    }
    return x;
  }

  private void free() {
    s.leavesFree("Not promised", "How the state is held inside the object is free, as are the speed of each call, "
        + "the text of toString and the behaviour of equals and hashCode.");
    s.leavesFree("Not promised", "Use of one object from several threads at once is not promised to be safe.");
    s.leavesFree("Not promised", "Nothing is promised beyond the answers and state changes described above, and "
        + "nothing about an object after its 512th call.");
  }
}
