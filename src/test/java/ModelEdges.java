/** Promises 1 to 5, sentence by sentence: a new object and its models. */
final class ModelEdges {
  private final Sentences s;

  ModelEdges(Sentences s) {
    this.s = s;
  }

  void run() {
    newObject();
    addModelAdds();
    addModelResets();
    addModelAnswers();
    addModelRefusesArguments();
    addModelRefusesSeventh();
    removeModelRemoves();
    removeModelResets();
    removeModelAnswers();
    removeModelRefusesNone();
    setRateSets();
    setRateResets();
    setRateAnswers();
    setRateRefusesModels();
    setRateRefusesRates();
    modelCount();
  }

  /** The part of the digest that a model has which has not learned. */
  private static long digestOfModel(long d, int order, int rate, int t) {
    long all = ((d * 31 + order) * 31 + rate) * 31 + t;
    for (int phase = 0; phase < 8; phase++) {
      all = all * 31 + 256;
    }
    return all * 31;
  }

  /** The digest of an object with models, but no text, no code and nothing observed. */
  private static long digestOfModels(int[]... models) {
    long d = 103 * 31 + models.length;
    for (int[] model : models) {
      d = digestOfModel(d, model[0], model[1], model[2]);
    }
    // the size of the text, the node, the bits, the error, and the sizes of code and output
    for (int x : new int[] {0, 1, 0, 0, 0, 0}) {
      d = d * 31 + x;
    }
    return d;
  }

  private void newObject() {
    s.says("Promise 1", "Creates a coder with an empty text, without models, with an empty code; nothing was "
        + "decoded, and the predictor is in the state of the beginning.");
    BitMixer x = new BitMixer();
    s.due("size", 0, x::size);
    s.due("byteAt(0)", "throws." + Sentences.INDEX, () -> x.byteAt(0));
    s.due("modelCount", 0, x::modelCount);
    s.due("prediction(0)", "throws." + Sentences.INDEX, () -> x.prediction(0));
    s.due("removeModel", "throws." + Sentences.STATE, x::removeModel);
    s.due("codeSize", 0, x::codeSize);
    s.due("code(0)", "throws." + Sentences.INDEX, () -> x.code(0));
    s.due("outputSize", 0, x::outputSize);
    s.due("output(0)", "throws." + Sentences.INDEX, () -> x.output(0));
    s.due("node", 1, x::node);
    s.due("observed", 0, x::observed);
    s.due("error", 0, x::error);
    s.due("mixed", 2048, x::mixed);
    s.due("leader", -1, x::leader);
    for (int back = 0; back < 3; back++) {
      int b = back;
      s.due("history(" + b + ")", 0, () -> x.history(b));
    }
    s.due("digest", digestOfModels(), x::digest);
    Scene.SIX.make();
    s.due("digest of one made behind others that were used", digestOfModels(), () -> new BitMixer().digest());
    s.due("reset answers that nothing was observed", 0, x::reset);
  }

  private void addModelAdds() {
    s.says("Promise 2", "Adds a model.");
    BitMixer x = new BitMixer();
    x.addModel(0, 2, 4);
    s.due("the least of all", digestOfModels(new int[] {0, 2, 4}), x::digest);
    x.addModel(3, 7, 9);
    s.due("the greatest of all", digestOfModels(new int[] {0, 2, 4}, new int[] {3, 7, 9}), x::digest);
    BitMixer y = new BitMixer();
    for (int many = 1; many <= 6; many++) {
      y.addModel(0, 2, 4);
      s.due("models", many, y::modelCount);
    }
    x.removeModel();
    x.addModel(1, 3, 4);
    s.due("a smaller one in the place of a removed one",
        digestOfModels(new int[] {0, 2, 4}, new int[] {1, 3, 4}), x::digest);
    s.due("its last counter", 2048, () -> x.counter(1, 15));
    s.due("a counter of the removed one", "throws." + Sentences.INDEX, () -> x.counter(1, 16));
    s.due("it looks by its own order", (73 + 1) % 16, () -> x.index(1));
  }

  private void addModelResets() {
    s.says("Promise 2", "The predictor is reset.");
    for (Scene scene : new Scene[] {Scene.NEW, Scene.BARE, Scene.BUSY, Scene.FULL}) {
      Scene.Act add = x -> x.addModel(2, 5, 8);
      s.same("addModel " + scene.name, scene.then("addModel", add),
          scene.then("reset", BitMixer::reset).then("addModel", add).then("reset", BitMixer::reset));
    }
    BitMixer x = Scene.BUSY.make();
    x.addModel(0, 2, 4);
    s.due("observed", 0, x::observed);
    s.due("error", 0, x::error);
    s.due("node", 1, x::node);
    s.due("history", 0, () -> x.history(0));
    s.due("an older model's counter", 2048, () -> x.counter(0, 1));
    s.due("an older model's weight", 256, () -> x.weight(0, 0));
    s.due("an older model's collisions", 0, () -> x.collisions(0));
    s.due("the text is left", 10, x::size);
    s.due("what was decoded is left", 6, x::outputSize);
    s.due("the code is left", 77, () -> x.code(2));
  }

  private void addModelAnswers() {
    s.says("Promise 2", "Returns its number.");
    BitMixer x = new BitMixer();
    for (int number = 0; number < 6; number++) {
      s.due("addModel", number, () -> x.addModel(3, 7, 9));
    }
    x.removeModel();
    s.due("addModel in the place of the sixth", 5, () -> x.addModel(0, 2, 4));
    for (int many = 0; many < 6; many++) {
      x.removeModel();
    }
    s.due("addModel behind the removal of all", 0, () -> x.addModel(0, 2, 4));
  }

  private void addModelRefusesArguments() {
    s.says("Promise 2", "Throws `IllegalArgumentException` if order is not 0 to 3, rate is not 2 to 7, or t is "
        + "not 4 to 9");
    for (Scene scene : Scene.ALL) {
      for (int wrong : Sentences.outside(0, 3)) {
        s.refused("order " + wrong, Sentences.ARGUMENT, scene, x -> x.addModel(wrong, 2, 4));
      }
      for (int wrong : Sentences.outside(2, 7)) {
        s.refused("rate " + wrong, Sentences.ARGUMENT, scene, x -> x.addModel(0, wrong, 4));
      }
      for (int wrong : Sentences.outside(4, 9)) {
        s.refused("t " + wrong, Sentences.ARGUMENT, scene, x -> x.addModel(0, 2, wrong));
      }
      s.refused("order, rate and t", Sentences.ARGUMENT, scene, x -> x.addModel(4, 8, 10));
    }
    for (int order = 0; order <= 3; order++) {
      for (int rate = 2; rate <= 7; rate++) {
        for (int t = 4; t <= 9; t++) {
          int[] right = {order, rate, t};
          s.due("none of them wrong", 0, () -> new BitMixer().addModel(right[0], right[1], right[2]));
        }
      }
    }
  }

  private void addModelRefusesSeventh() {
    s.says("Promise 2", "Throws `IllegalStateException` if there are 6 models");
    s.refused("addModel(0, 2, 4)", Sentences.STATE, Scene.SIX, x -> x.addModel(0, 2, 4));
    s.refused("addModel(3, 7, 9)", Sentences.STATE, Scene.SIX, x -> x.addModel(3, 7, 9));
    BitMixer x = Scene.SIX.make();
    x.removeModel();
    s.due("of five it is the sixth", 5, () -> x.addModel(3, 7, 9));
    s.due("of six again", "throws." + Sentences.STATE, () -> x.addModel(3, 7, 9));
  }

  private void removeModelRemoves() {
    s.says("Promise 3", "Removes the model that was added last.");
    BitMixer x = new BitMixer();
    x.addModel(0, 2, 4);
    x.addModel(1, 3, 5);
    x.addModel(2, 4, 6);
    x.removeModel();
    s.due("of three", digestOfModels(new int[] {0, 2, 4}, new int[] {1, 3, 5}), x::digest);
    s.due("the removed one", "throws." + Sentences.INDEX, () -> x.prediction(2));
    x.removeModel();
    s.due("of two", digestOfModels(new int[] {0, 2, 4}), x::digest);
    x.removeModel();
    s.due("of one", digestOfModels(), x::digest);
    s.due("the first one", "throws." + Sentences.INDEX, () -> x.prediction(0));
    BitMixer six = Scene.SIX.make();
    six.removeModel();
    s.due("the sixth of six", "throws." + Sentences.INDEX, () -> six.weight(5, 0));
    s.due("the fifth of six has its rate", 6, () -> six.setRate(4, 6));
  }

  private void removeModelResets() {
    s.says("Promise 3", "The predictor is reset.");
    for (Scene scene : new Scene[] {Scene.BUSY, Scene.SIX, Scene.FULL}) {
      s.same("removeModel " + scene.name, scene.then("removeModel", BitMixer::removeModel),
          scene.then("reset", BitMixer::reset).then("removeModel", BitMixer::removeModel)
              .then("reset", BitMixer::reset));
    }
    BitMixer x = Scene.FULL.make();
    x.removeModel();
    s.due("observed, with the only model gone", 0, x::observed);
    s.due("node, with the only model gone", 1, x::node);
    s.due("error, with the only model gone", 0, x::error);
    s.due("history, with the only model gone", 0, () -> x.history(0));
    s.due("the text is left", 80, x::size);
    s.due("what was decoded is left", 80, x::outputSize);
  }

  private void removeModelAnswers() {
    s.says("Promise 3", "Returns how many are left.");
    BitMixer x = Scene.SIX.make();
    for (int left = 5; left >= 0; left--) {
      s.due("removeModel", left, x::removeModel);
    }
  }

  private void removeModelRefusesNone() {
    s.says("Promise 3", "Throws `IllegalStateException` if there is none");
    s.refused("removeModel", Sentences.STATE, Scene.NEW, BitMixer::removeModel);
    s.refused("removeModel", Sentences.STATE, Scene.BARE, BitMixer::removeModel);
    s.refused("removeModel", Sentences.STATE, Scene.FULL.then("removeModel", BitMixer::removeModel),
        BitMixer::removeModel);
  }

  private void setRateSets() {
    s.says("Promise 4", "Sets the rate of a model.");
    for (int rate = 2; rate <= 7; rate++) {
      BitMixer x = new BitMixer();
      x.addModel(0, 4, 9);
      x.addModel(0, 4, 9);
      x.setRate(1, rate);
      x.observe(true);
      int learned = 2048 + (2048 >> rate);
      s.due("rate " + rate + " is learned by", learned, () -> x.counter(1, 1));
      s.due("the other model's rate is left", 2048 + 128, () -> x.counter(0, 1));
    }
    BitMixer x = new BitMixer();
    x.addModel(3, 7, 9);
    x.setRate(0, 2);
    s.due("order and t are left", digestOfModels(new int[] {3, 2, 9}), x::digest);
    BitMixer six = Scene.SIX.make();
    six.setRate(5, 2);
    six.setRate(0, 7);
    s.due("the rate of the last", 2, () -> six.setRate(5, 2));
    s.due("the rate of the first", 7, () -> six.setRate(0, 7));
    s.due("the rate of another", 3, () -> six.setRate(1, 3));
  }

  private void setRateResets() {
    s.says("Promise 4", "The predictor is reset.");
    for (Scene scene : new Scene[] {Scene.BUSY, Scene.SIX, Scene.FULL}) {
      for (int rate = 2; rate <= 7; rate++) {
        int to = rate;
        Scene.Act set = x -> x.setRate(0, to);
        s.same("setRate(0, " + to + ") " + scene.name, scene.then("setRate", set),
            scene.then("reset", BitMixer::reset).then("setRate", set).then("reset", BitMixer::reset));
      }
    }
    BitMixer x = Scene.BUSY.make();
    x.setRate(2, 4);
    s.due("to the rate that it has, observed", 0, x::observed);
    s.due("to the rate that it has, node", 1, x::node);
    s.due("to the rate that it has, another model's counter", 2048, () -> x.counter(0, 1));
    s.due("the text is left", 10, x::size);
    s.due("the code is left", 77, () -> x.code(2));
  }

  private void setRateAnswers() {
    s.says("Promise 4", "Returns the rate before.");
    BitMixer x = new BitMixer();
    x.addModel(0, 2, 4);
    s.due("the least", 2, () -> x.setRate(0, 7));
    s.due("the greatest", 7, () -> x.setRate(0, 7));
    s.due("the same", 7, () -> x.setRate(0, 3));
    s.due("refused", "throws." + Sentences.ARGUMENT, () -> x.setRate(0, 8));
    s.due("behind a refusal", 3, () -> x.setRate(0, 2));
    x.removeModel();
    x.addModel(0, 5, 4);
    s.due("of a model in the place of a removed one", 5, () -> x.setRate(0, 2));
  }

  private void setRateRefusesModels() {
    s.says("Promise 4", "Throws `IndexOutOfBoundsException` if there is no such model");
    for (Scene scene : Scene.ALL) {
      for (int wrong : Sentences.outside(0, scene.make().modelCount() - 1)) {
        s.refused("model " + wrong, Sentences.INDEX, scene, x -> x.setRate(wrong, 3));
      }
    }
    BitMixer x = Scene.SIX.make();
    s.due("the last model", 7, () -> x.setRate(5, 2));
    x.removeModel();
    s.due("the last model, removed", "throws." + Sentences.INDEX, () -> x.setRate(5, 2));
    s.due("the first model", 2, () -> x.setRate(0, 2));
  }

  private void setRateRefusesRates() {
    s.says("Promise 4", "Throws `IllegalArgumentException` if rate is not 2 to 7");
    for (Scene scene : new Scene[] {Scene.BUSY, Scene.SIX, Scene.FULL}) {
      int last = scene.make().modelCount() - 1;
      for (int wrong : Sentences.outside(2, 7)) {
        s.refused("rate " + wrong, Sentences.ARGUMENT, scene, x -> x.setRate(0, wrong));
        s.refused("rate " + wrong + " of the last", Sentences.ARGUMENT, scene, x -> x.setRate(last, wrong));
      }
    }
    BitMixer x = Scene.BUSY.make();
    s.due("rate 2", 3, () -> x.setRate(1, 2));
    s.due("rate 7", 2, () -> x.setRate(1, 7));
  }

  private void modelCount() {
    s.says("Promise 5", "Returns the number of models.");
    BitMixer x = new BitMixer();
    s.due("none", 0, x::modelCount);
    for (int many = 1; many <= 6; many++) {
      x.addModel(0, 2, 4);
      s.due("behind addModel", many, x::modelCount);
    }
    Check.answerOf(() -> x.addModel(0, 2, 4));
    s.due("behind a refused seventh", 6, x::modelCount);
    for (int left = 5; left >= 0; left--) {
      x.removeModel();
      s.due("behind removeModel", left, x::modelCount);
    }
    Check.answerOf(x::removeModel);
    s.due("behind a refused removal", 0, x::modelCount);
    Check.answerOf(() -> x.addModel(4, 2, 4));
    s.due("behind a refused order", 0, x::modelCount);
    for (Scene scene : Scene.ALL) {
      s.changesNothing("modelCount", scene, BitMixer::modelCount);
    }
  }
}
