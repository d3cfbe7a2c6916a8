/** Promises 11 to 24, sentence by sentence: the predictor and what can be seen of it. */
final class PredictorEdges {
  private static final String NO_SUCH_MODEL = "Throws `IndexOutOfBoundsException` if there is no such model";
  private static final String ONES = "11111111";

  private final Sentences s;

  PredictorEdges(Sentences s) {
    this.s = s;
  }

  void run() {
    resetResets();
    resetAnswers();
    observeObserves();
    observeAnswers();
    mixed();
    predictionAnswers();
    predictionRefusesModels();
    indexAnswers();
    indexRefusesModels();
    counterAnswers();
    counterRefuses();
    weightAnswers();
    weightRefuses();
    leader();
    collisionsAnswers();
    collisionsRefusesModels();
    historyNumbers();
    historyAnswers();
    historyRefusesBack();
    node();
    observed();
    error();
    meanError();
  }

  private static BitMixer withModels(int order, int t, int... rates) {
    BitMixer x = new BitMixer();
    for (int rate : rates) {
      x.addModel(order, rate, t);
    }
    return x;
  }

  /** A counter's value once it has seen so many ones. */
  private static int risen(int rate, int ones) {
    int p = 2048;
    for (int i = 0; i < ones; i++) {
      p += (4096 - p) / (1 << rate);
    }
    return p;
  }

  /** A model that has seen 80 bytes of this value; the predictor is at the beginning of a byte. */
  private static BitMixer taught(int value, int rate) {
    BitMixer x = withModels(0, 9, rate);
    x.fill(value, 80);
    x.encode();
    return x;
  }

  private void changesNothing(String what, Scene.Act act) {
    for (Scene scene : Scene.ALL) {
      s.changesNothing(what, scene, act);
    }
  }

  private interface OfModel {
    Object answer(BitMixer x, int model);
  }

  /** Every number that is no model, on every scene; the models that there are answer. */
  private void refusesModels(OfModel call) {
    for (Scene scene : Scene.ALL) {
      int models = scene.make().modelCount();
      for (int wrong : Sentences.outside(0, models - 1)) {
        s.refused("model " + wrong, Sentences.INDEX, scene, x -> call.answer(x, wrong));
      }
      for (int i = 0; i < models; i++) {
        int model = i;
        s.due("model " + model + " " + scene.name, false,
            () -> Check.answerOf(() -> call.answer(scene.make(), model)).startsWith("throws."));
      }
    }
    BitMixer x = Scene.SIX.make();
    x.removeModel();
    s.due("the model that was removed", "throws." + Sentences.INDEX, () -> call.answer(x, 5));
  }

  private void resetResets() {
    s.says("Promise 11", "Resets the predictor.");
    Scene models = new Scene("with models alone", PredictorEdges::models);
    String bits = "0110000101100010" + ONES + "01100001" + "0000000";
    s.same("reset in the last bit of a byte", models,
        models.then("observe", x -> Scene.observing(x, bits)).then("reset", BitMixer::reset));
    s.same("reset behind a whole byte", models,
        models.then("observe", x -> Scene.observing(x, bits + "1")).then("reset", BitMixer::reset));
    s.same("reset behind a bit", models,
        models.then("observe", x -> x.observe(true)).then("reset", BitMixer::reset));
    s.same("reset of the beginning", models, models.then("reset", BitMixer::reset));
    s.same("reset of a new object", Scene.NEW, Scene.NEW.then("reset", BitMixer::reset));
    s.same("reset without models", Scene.NEW,
        Scene.NEW.then("observe", x -> Scene.observing(x, bits)).then("reset", BitMixer::reset));
    BitMixer x = Scene.BUSY.make();
    x.reset();
    s.due("the models are left", 3, x::modelCount);
    s.due("the text is left", 10, x::size);
    s.due("the code is left", 77, () -> x.code(2));
    s.due("what was decoded is left", 6, x::outputSize);
    s.due("the rates are left", 4, () -> x.setRate(2, 4));
  }

  private static BitMixer models() {
    BitMixer x = new BitMixer();
    for (int model = 0; model < 6; model++) {
      x.addModel(model % 4, 2 + model, 4 + model);
    }
    return x;
  }

  private void resetAnswers() {
    s.says("Promise 11", "Returns how many bits it had observed.");
    s.due("none", 0, () -> new BitMixer().reset());
    s.due("without models", 8 * 3 + 29, () -> Scene.BARE.make().reset());
    s.due("bytes of a decoding and bits", 8 * 6 + 21, () -> Scene.BUSY.make().reset());
    BitMixer x = Scene.FULL.make();
    s.due("a full text and a bit", 641, x::reset);
    s.due("once more", 0, x::reset);
    x.observe(false);
    s.due("behind one bit", 1, x::reset);
  }

  private void observeObserves() {
    s.says("Promise 12", "Lets the predictor observe a bit.");
    BitMixer x = new BitMixer();
    x.observe(true);
    s.due("a one, without models, the node", 3, x::node);
    x.observe(false);
    s.due("a zero, without models, the node", 6, x::node);
    s.due("without models, observed", 2, x::observed);
    BitMixer y = withModels(0, 9, 2);
    y.observe(true);
    s.due("a one, the counter", 2560, () -> y.counter(0, 1));
    y.observe(false);
    s.due("a zero, the counter", 1536, () -> y.counter(0, 3));
    Scene.observing(y, "000001");
    s.due("the eighth bit makes a byte whole", 0x81, () -> y.history(0));
    // the same bits one by one and as a text that is encoded
    BitMixer byText = withModels(1, 5, 2, 7);
    byText.feed(0xFF0061, 3);
    byText.encode();
    BitMixer byBits = withModels(1, 5, 2, 7);
    byBits.feed(0xFF0061, 3);
    byBits.encode();
    byBits.reset();
    Scene.observing(byBits, ONES + "00000000" + "01100001");
    s.due("bits as those of a text", byText.digest(), byBits::digest);
  }

  private void observeAnswers() {
    s.says("Promise 12", "Returns the quality of the mixed prediction ahead of it.");
    s.due("a one without models", 2048, () -> new BitMixer().observe(true));
    s.due("a zero without models", 2048, () -> new BitMixer().observe(false));
    BitMixer x = withModels(0, 9, 2);
    s.due("a one at first, ahead of the learning", 2048, () -> x.observe(true));
    s.due("a zero at first, ahead of the learning", 2048, () -> x.observe(false));
    s.due("the greatest, of a one", 4093, () -> taught(255, 2).observe(true));
    s.due("the least, of a zero", 3, () -> taught(255, 2).observe(false));
    s.due("the greatest, of a zero", 4093, () -> taught(0, 2).observe(false));
    s.due("the least, of a one", 3, () -> taught(0, 2).observe(true));
    // 2560 and 2064 with equal weights
    BitMixer two = Scene.observing(withModels(0, 9, 2, 7), ONES);
    s.due("of two models it is the mixed one's", 2312, () -> two.observe(true));
  }

  private void mixed() {
    s.says("Promise 13", "Returns the mixed prediction.");
    s.due("without models", 2048, () -> new BitMixer().mixed());
    s.due("without models, bits observed", 2048, () -> Scene.BARE.make().mixed());
    s.due("of one model", 2560, () -> Scene.observing(withModels(0, 9, 2), ONES).mixed());
    s.due("of six models", 2048 + (512 + 256 + 128 + 64 + 32 + 16) / 6,
        () -> Scene.observing(withModels(0, 9, 2, 3, 4, 5, 6, 7), ONES).mixed());
    s.due("the greatest", 4093, () -> taught(255, 2).mixed());
    s.due("the least", 3, () -> taught(0, 2).mixed());
    changesNothing("mixed", BitMixer::mixed);
  }

  private void predictionAnswers() {
    s.says("Promise 14", "Returns its prediction.");
    BitMixer x = withModels(0, 9, 2, 3, 4, 5, 6, 7);
    for (int i = 0; i < 6; i++) {
      int model = i;
      s.due("at first, of model " + model, 2048, () -> x.prediction(model));
    }
    Scene.observing(x, ONES);
    for (int i = 0; i < 6; i++) {
      int model = i;
      s.due("behind a byte of ones, of model " + model, 2048 + (2048 >> (2 + model)), () -> x.prediction(model));
    }
    x.observe(false);
    s.due("at a node that was not looked at", 2048, () -> x.prediction(0));
    s.due("the greatest", 4093, () -> taught(255, 2).prediction(0));
    s.due("the least", 3, () -> taught(0, 2).prediction(0));
    changesNothing("prediction(0)", y -> y.prediction(0));
  }

  private void predictionRefusesModels() {
    s.says("Promise 14", NO_SUCH_MODEL);
    refusesModels(BitMixer::prediction);
  }

  private void indexAnswers() {
    s.says("Promise 15", "Returns the number of the counter that it looks at.");
    for (int t = 4; t <= 9; t++) {
      int size = 1 << t;
      int ofTable = t;
      s.due("at first, order 0, t " + t, 1, () -> withModels(0, ofTable, 2).index(0));
      BitMixer x = withModels(0, t, 2);
      Scene.observing(x, "1111111");
      s.due("at node 255, t " + t, 255 % size, () -> x.index(0));
      BitMixer y = withModels(0, t, 2);
      Scene.observing(y, "0000000");
      s.due("at node 128, t " + t, 128 % size, () -> y.index(0));
      BitMixer z = withModels(3, t, 2);
      Scene.observing(z, ONES + ONES + ONES + "1111111");
      s.due("the greatest context and node, t " + t,
          (int) ((73L * (257L * (257L * 256 + 256) + 256) + 255) % size), () -> z.index(0));
      s.due("the counter there is the prediction", z.prediction(0), () -> z.counter(0, z.index(0)));
    }
    changesNothing("index(0)", y -> y.index(0));
  }

  private void indexRefusesModels() {
    s.says("Promise 15", NO_SUCH_MODEL);
    refusesModels(BitMixer::index);
  }

  private void counterAnswers() {
    s.says("Promise 16", "Returns its value.");
    BitMixer x = new BitMixer();
    for (int t = 4; t <= 9; t++) {
      int model = x.addModel(0, 2, t);
      int last = (1 << t) - 1;
      s.due("the first at first", 2048, () -> x.counter(model, 0));
      s.due("the last at first", 2048, () -> x.counter(model, last));
    }
    Scene.observing(x, "111");
    for (int i = 0; i < 6; i++) {
      int model = i;
      s.due("counter 15 ahead of node 15, model " + model, 2048, () -> x.counter(model, 15));
    }
    x.observe(true);
    for (int i = 0; i < 6; i++) {
      int model = i;
      s.due("counter 15 behind node 15, model " + model, 2560, () -> x.counter(model, 15));
    }
    x.observe(true);
    s.due("counter 15 of 16, looked at for node 31, too", 2560 + 384, () -> x.counter(0, 15));
    s.due("counter 15 of 32, looked at once", 2560, () -> x.counter(1, 15));
    s.due("counter 31 of 32, the last one", 2560, () -> x.counter(1, 31));
    s.due("the first counter, a node that wraps to 0", 1536,
        () -> Scene.observing(withModels(0, 4, 2), "00000").counter(0, 0));
    BitMixer last = Scene.observing(withModels(0, 8, 2), ONES);
    s.due("the last counter of 256", 2560, () -> last.counter(0, 255));
    changesNothing("counter(0, 0)", y -> y.counter(0, 0));
    changesNothing("counter(0, 15)", y -> y.counter(0, 15));
  }

  private void counterRefuses() {
    s.says("Promise 16", "Throws `IndexOutOfBoundsException` if there is no such model or counter");
    refusesModels((x, model) -> x.counter(model, 0));
    for (int t = 4; t <= 9; t++) {
      int last = (1 << t) - 1;
      int ofTable = t;
      Scene scene = new Scene("of t " + t, () -> Scene.observing(withModels(1, ofTable, 3, 2), ONES + "01"));
      for (int wrong : Sentences.outside(0, last)) {
        s.refused("counter " + wrong, Sentences.INDEX, scene, x -> x.counter(1, wrong));
      }
      s.due("the last counter, t " + t, 2048, () -> withModels(0, ofTable, 2).counter(0, last));
    }
    BitMixer two = new BitMixer();
    two.addModel(0, 2, 4);
    two.addModel(0, 2, 9);
    s.due("a counter that only the other model has", "throws." + Sentences.INDEX, () -> two.counter(0, 16));
    s.due("that counter of the other model", 2048, () -> two.counter(1, 511));
    s.refused("neither model nor counter", Sentences.INDEX, Scene.BUSY, x -> x.counter(3, 512));
    s.refused("neither model nor counter, both negative", Sentences.INDEX, Scene.BUSY, x -> x.counter(-1, -1));
  }

  private void weightAnswers() {
    s.says("Promise 17", "Returns the weight.");
    BitMixer x = models();
    for (int i = 0; i < 48; i++) {
      int model = i / 8;
      int phase = i % 8;
      s.due("at first, model " + model + ", phase " + phase, 256, () -> x.weight(model, phase));
    }
    BitMixer two = Scene.observing(withModels(0, 9, 2, 7), ONES + "1");
    s.due("of the better one in phase 0", 273, () -> two.weight(0, 0));
    s.due("of the worse one in phase 0", 239, () -> two.weight(1, 0));
    s.due("in a phase that did not come again", 256, () -> two.weight(0, 7));
    Scene.observing(two, "1111110");
    s.due("of the better one in phase 7", 273, () -> two.weight(1, 7));
    s.due("of the worse one in phase 7", 239, () -> two.weight(0, 7));
    changesNothing("weight(0, 7)", y -> y.weight(0, 7));
  }

  private void weightRefuses() {
    s.says("Promise 17", "Throws `IndexOutOfBoundsException` if there is no such model, or phase is not 0 to 7");
    refusesModels((x, model) -> x.weight(model, 0));
    for (Scene scene : new Scene[] {Scene.BUSY, Scene.SIX, Scene.FULL}) {
      for (int wrong : Sentences.outside(0, 7)) {
        s.refused("phase " + wrong, Sentences.INDEX, scene, x -> x.weight(0, wrong));
      }
      s.refused("neither model nor phase", Sentences.INDEX, scene, x -> x.weight(6, 8));
      s.refused("neither model nor phase, both negative", Sentences.INDEX, scene, x -> x.weight(-1, -1));
    }
    for (int i = 0; i <= 7; i++) {
      int phase = i;
      s.due("phase " + phase, 256, () -> models().weight(5, phase));
    }
  }

  private void leader() {
    s.says("Promise 18", "Returns the model with the greatest weight in the present phase, of several the one "
        + "with the smallest number; -1 if there are no models.");
    s.due("of no models", -1, () -> new BitMixer().leader());
    s.due("of no models, bits observed", -1, () -> Scene.BARE.make().leader());
    BitMixer gone = Scene.FULL.make();
    gone.removeModel();
    s.due("of no models, the last one removed", -1, gone::leader);
    s.due("of one", 0, () -> Scene.FULL.make().leader());
    s.due("of six equal ones", 0, () -> models().leader());
    String twoBytes = ONES + ONES;
    s.due("the last of six", 5, () -> Scene.observing(withModels(0, 9, 7, 7, 7, 7, 7, 2), twoBytes).leader());
    s.due("the first of six", 0, () -> Scene.observing(withModels(0, 9, 2, 7, 7, 7, 7, 7), twoBytes).leader());
    s.due("of two in the middle", 3, () -> Scene.observing(withModels(0, 9, 7, 7, 7, 2, 2, 7), twoBytes).leader());
    s.due("of the first and the last", 0, () -> Scene.observing(withModels(0, 9, 2, 7, 2), twoBytes).leader());
    // in phase 0 the quick model was better, in phase 1 the slow one
    BitMixer x = Scene.observing(withModels(0, 9, 2, 7), ONES + "10111111");
    s.due("in phase 0", 0, x::leader);
    x.observe(true);
    s.due("in phase 1", 1, x::leader);
    x.observe(true);
    s.due("in phase 2", 0, x::leader);
    changesNothing("leader", BitMixer::leader);
  }

  private void collisionsAnswers() {
    s.says("Promise 19", "Returns how many collisions it has had since the latest reset.");
    BitMixer x = new BitMixer();
    x.addModel(0, 2, 4);
    x.addModel(0, 2, 9);
    s.due("at first", 0, () -> x.collisions(0));
    x.fill(255, 80);
    x.encode();
    // the nodes 15, 31, 63, 127 and 255 share a counter: four in the first byte, five in each other
    s.due("of 80 bytes", 4 + 79 * 5, () -> x.collisions(0));
    s.due("of another model with a counter for each node", 0, () -> x.collisions(1));
    Scene.observing(x, "1111");
    s.due("one more", 4 + 79 * 5 + 1, () -> x.collisions(0));
    x.reset();
    s.due("behind reset", 0, () -> x.collisions(0));
    for (Scene.Act act : new Scene.Act[] {y -> y.addModel(0, 2, 4), BitMixer::removeModel, y -> y.setRate(0, 2),
        y -> y.decode(0), BitMixer::reset}) {
      BitMixer busy = Scene.BUSY.make();
      s.due("the busy one has some", true, () -> busy.collisions(0) > 0);
      act.on(busy);
      s.due("behind a call that resets", 0, () -> busy.collisions(0));
    }
    BitMixer busy = Scene.BUSY.make();
    busy.cut(10);
    busy.encode();
    s.due("behind the encoding of an empty text", 0, () -> busy.collisions(0));
    changesNothing("collisions(0)", y -> y.collisions(0));
  }

  private void collisionsRefusesModels() {
    s.says("Promise 19", NO_SUCH_MODEL);
    refusesModels(BitMixer::collisions);
  }

  private void historyNumbers() {
    s.says("Promise 20",
        "- `back`: 0 for the latest whole byte, 1 for the one before, 2 for the one before that");
    BitMixer x = Scene.observing(new BitMixer(), "00000001" + "00000010" + "00000011");
    s.due("the latest", 3, () -> x.history(0));
    s.due("the one before", 2, () -> x.history(1));
    s.due("the one before that", 1, () -> x.history(2));
    Scene.observing(x, "1111111");
    s.due("a byte that is not whole is not in it", 3, () -> x.history(0));
    x.observe(false);
    s.due("once it is whole", 254, () -> x.history(0));
    s.due("once it is whole, the one before", 3, () -> x.history(1));
    s.due("once it is whole, the one before that", 2, () -> x.history(2));
  }

  private void historyAnswers() {
    s.says("Promise 20", "Returns this byte of the history.");
    for (int back = 0; back <= 2; back++) {
      int b = back;
      s.due("at first", 0, () -> new BitMixer().history(b));
    }
    BitMixer x = Scene.observing(new BitMixer(), ONES + "00000000" + "10000000");
    s.due("the highest bit", 128, () -> x.history(0));
    s.due("zeros", 0, () -> x.history(1));
    s.due("ones", 255, () -> x.history(2));
    s.due("of an encoding, the latest", 0x63, () -> encoded().history(0));
    s.due("of an encoding, the oldest", 0x61, () -> encoded().history(2));
    BitMixer empty = encoded();
    empty.decode(0);
    s.due("of a decoding of nothing", 0, () -> empty.history(0));
    changesNothing("history(2)", y -> y.history(2));
  }

  private static BitMixer encoded() {
    BitMixer x = withModels(2, 6, 3);
    x.feed(0x60616263L, 4);
    x.encode();
    return x;
  }

  private void historyRefusesBack() {
    s.says("Promise 20", "Throws `IndexOutOfBoundsException` if back is not 0 to 2");
    for (Scene scene : Scene.ALL) {
      for (int wrong : Sentences.outside(0, 2)) {
        s.refused("back " + wrong, Sentences.INDEX, scene, x -> x.history(wrong));
      }
    }
    s.due("back 0", 0x80, () -> Scene.BARE.make().history(0));
    s.due("back 2", 0xC1, () -> Scene.BARE.make().history(2));
  }

  private void node() {
    s.says("Promise 21", "Returns the node.");
    s.due("at first", 1, () -> new BitMixer().node());
    s.due("the greatest", 255, () -> Scene.observing(new BitMixer(), "1111111").node());
    s.due("seven zeros", 128, () -> Scene.observing(new BitMixer(), "0000000").node());
    s.due("eight zeros", 1, () -> Scene.observing(new BitMixer(), "00000000").node());
    s.due("eight ones", 1, () -> Scene.observing(new BitMixer(), ONES).node());
    s.due("nine bits", 3, () -> Scene.observing(new BitMixer(), ONES + "1").node());
    s.due("behind encode", 1, () -> encoded().node());
    changesNothing("node", BitMixer::node);
  }

  private void observed() {
    s.says("Promise 22", "Returns how many bits were observed since the latest reset.");
    s.due("at first", 0, () -> new BitMixer().observed());
    s.due("one", 1, () -> Scene.observing(new BitMixer(), "0").observed());
    s.due("of a full text and a bit", 641, () -> Scene.FULL.make().observed());
    BitMixer x = Scene.FULL.make();
    x.decode(1);
    s.due("of one decoded byte", 8, x::observed);
    x.decode(0);
    s.due("of none", 0, x::observed);
    x.cut(80);
    x.encode();
    s.due("of an empty text", 0, x::observed);
    changesNothing("observed", BitMixer::observed);
  }

  private void error() {
    s.says("Promise 23", "Returns the error since the latest reset.");
    s.due("at first", 0, () -> new BitMixer().error());
    s.due("of a bit without models", 2048, () -> Scene.observing(new BitMixer(), "0").error());
    s.due("of 80 bytes that are well foreseen", errorOfOnes(80), () -> taught(255, 2).error());
    BitMixer right = taught(255, 2);
    right.observe(true);
    s.due("the least that a bit adds", errorOfOnes(80) + 3, right::error);
    BitMixer wrong = taught(255, 2);
    wrong.observe(false);
    s.due("the most that a bit adds", errorOfOnes(80) + 4093, wrong::error);
    wrong.reset();
    s.due("behind reset", 0, wrong::error);
    BitMixer full = new BitMixer();
    full.fill(7, 80);
    full.encode();
    s.due("of 80 bytes without models", 640 * 2048, full::error);
    full.decode(0);
    s.due("of none", 0, full::error);
    changesNothing("error", BitMixer::error);
  }

  /** Each of the eight nodes sees as many ones as there are bytes. */
  private static long errorOfOnes(int bytes) {
    long sum = 0;
    for (int i = 0; i < bytes; i++) {
      sum += 8L * (4096 - risen(2, i));
    }
    return sum;
  }

  private void meanError() {
    s.says("Promise 24", "Returns the error since the latest reset divided by 4096 times the number of bits that "
        + "were observed; 0 if there were none.");
    s.due("of none at first", 0.0, () -> new BitMixer().meanError());
    BitMixer busy = Scene.BUSY.make();
    busy.reset();
    s.due("of none behind reset", 0.0, busy::meanError);
    BitMixer none = Scene.FULL.make();
    none.decode(0);
    s.due("of none behind decode(0)", 0.0, none::meanError);
    none.observe(true);
    s.due("of a bit", 0.5, none::meanError);
    none.cut(80);
    none.encode();
    s.due("of none behind the encoding of an empty text", 0.0, none::meanError);
    s.due("without models", 0.5, () -> Scene.BARE.make().meanError());
    s.due("of 80 bytes that are well foreseen", errorOfOnes(80) / (4096.0 * 640), () -> taught(255, 2).meanError());
    // the nodes 15, 31 and 63 share a counter, which is 2048, 2560 and 2944 when it is looked at
    s.due("of six bits", (4 * 2048 + 1536 + 1152) / (4096.0 * 6),
        () -> Scene.observing(withModels(0, 4, 2), "111111").meanError());
    changesNothing("meanError", BitMixer::meanError);
  }
}
