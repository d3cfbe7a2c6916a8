/**
 * Long runs of calls, right and wrong ones, whose every answer is compared with PlainMixer's.
 * No run is longer than an object's life of 512 calls, and the runs are always the same.
 */
public final class ReferenceTest {
  private static final int RUNS = 400;
  private static final int LIFE = 512;
  private static final int[] ODD = {-1, 0, 1, 7, 8, 9, 79, 80, 81, 255, 256, 511, 512, 4096, 1 << 16,
      Integer.MAX_VALUE, Integer.MIN_VALUE, Integer.MIN_VALUE + 1, Integer.MAX_VALUE - 1};

  private final Check check;
  private final int run;
  private final BitMixer real = new BitMixer();
  private final PlainMixer plain = new PlainMixer();
  private long seed;
  private int calls = 0;
  private int dear = 0;

  private ReferenceTest(Check check, int run) {
    this.check = check;
    this.run = run;
    this.seed = 88172645463325252L + 1442695040888963407L * run;
  }

  public static void main(String[] args) {
    Check check = new Check();
    for (int run = 0; run < RUNS; run++) {
      new ReferenceTest(check, run).live();
    }
    check.end();
  }

  private int below(int bound) {
    seed ^= seed << 13;
    seed ^= seed >>> 7;
    seed ^= seed << 17;
    return (int) Long.remainderUnsigned(seed, bound);
  }

  /** A number from least to most as a rule, and now and then one near the edge or far away. */
  private int number(int least, int most) {
    int kind = below(20);
    if (kind == 0) return ODD[below(ODD.length)];
    if (kind == 1) return least - 1;
    if (kind == 2) return most + 1;
    return most < least ? least : least + below(most - least + 1);
  }

  private void both(String call, Check.Call ofReal, Check.Call ofPlain) {
    calls++;
    check.same("run " + run + ", call " + calls + ": " + call, Check.answerOf(ofPlain), Check.answerOf(ofReal));
  }

  private void live() {
    int first = below(7);
    for (int i = 0; i < first; i++) change(0);
    while (calls < LIFE - 24) {
      change(below(40));
      look(below(25));
      if (below(3) == 0) both("digest()", real::digest, plain::digest);
    }
    for (int i = 0; i < 19; i++) look(i);
    both("digest()", real::digest, plain::digest);
  }

  private void change(int kind) {
    switch (kind) {
      case 0: case 1: addModel(); break;
      case 2: if (below(2) == 0) both("removeModel()", real::removeModel, plain::removeModel); break;
      case 3: setRate(); break;
      case 4: case 5: case 6: feed(); break;
      case 7: case 8: fill(); break;
      case 9: case 10: cut(); break;
      case 11: if (below(4) == 0) both("reset()", real::reset, plain::reset); break;
      case 12: case 13: code(); break;
      case 14: case 15: decode(); break;
      case 16: setCode(); break;
      case 17: cutCode(); break;
      default: observeSome(); break;
    }
  }

  private void addModel() {
    int order = number(0, 3);
    int rate = number(2, 7);
    int t = number(4, 9);
    both("addModel(" + order + ", " + rate + ", " + t + ")",
        () -> real.addModel(order, rate, t), () -> plain.addModel(order, rate, t));
  }

  private void setRate() {
    int model = number(0, plain.modelCount() - 1);
    int rate = number(2, 7);
    both("setRate(" + model + ", " + rate + ")", () -> real.setRate(model, rate), () -> plain.setRate(model, rate));
  }

  /** Half of the bytes are of few kinds, so that there is something to learn. */
  private void feed() {
    below(2);
    long bytes = below(2) == 0 ? seed : seed & 0x0301030103010301L | 0x6160616061606160L;
    int many = number(1, 8);
    both("feed(" + bytes + ", " + many + ")", () -> real.feed(bytes, many), () -> plain.feed(bytes, many));
  }

  private void fill() {
    int value = below(3) == 0 ? 255 * below(2) : number(0, 255);
    int many = below(2) == 0 ? number(1, 80) : 80 - plain.size();
    both("fill(" + value + ", " + many + ")", () -> real.fill(value, many), () -> plain.fill(value, many));
  }

  private void cut() {
    int many = number(0, plain.size());
    both("cut(" + many + ")", () -> real.cut(many), () -> plain.cut(many));
  }

  /** PlainMixer is slow, so that a run has only some encodings and decodings. */
  private boolean isTooDear() {
    dear++;
    return dear > 30;
  }

  private void code() {
    if (isTooDear()) return;
    both("encode()", real::encode, plain::encode);
    if (below(3) == 0) {
      int many = plain.size();
      both("decode(" + many + ")", () -> real.decode(many), () -> plain.decode(many));
    }
  }

  private void decode() {
    if (isTooDear()) return;
    int many = number(0, 80);
    both("decode(" + many + ")", () -> real.decode(many), () -> plain.decode(many));
  }

  private void setCode() {
    int position = number(0, plain.codeSize() - 1);
    int value = number(0, 255);
    both("setCode(" + position + ", " + value + ")",
        () -> real.setCode(position, value), () -> plain.setCode(position, value));
  }

  private void cutCode() {
    int many = number(0, Math.min(10, plain.codeSize()));
    both("cutCode(" + many + ")", () -> real.cutCode(many), () -> plain.cutCode(many));
  }

  private void observeSome() {
    int many = 1 + below(10);
    int lean = below(5);
    for (int i = 0; i < many && calls < LIFE - 30; i++) {
      boolean isOne = below(4) < lean;
      both("observe(" + isOne + ")", () -> real.observe(isOne), () -> plain.observe(isOne));
    }
  }

  private void look(int kind) {
    int model = number(0, plain.modelCount() - 1);
    switch (kind) {
      case 0: both("modelCount()", real::modelCount, plain::modelCount); break;
      case 1: both("size()", real::size, plain::size); break;
      case 2: lookAtText(); break;
      case 3: both("mixed()", real::mixed, plain::mixed); break;
      case 4: both("prediction(" + model + ")", () -> real.prediction(model), () -> plain.prediction(model)); break;
      case 5: both("index(" + model + ")", () -> real.index(model), () -> plain.index(model)); break;
      case 6: lookAtCounter(model); break;
      case 7: lookAtWeight(model); break;
      case 8: both("leader()", real::leader, plain::leader); break;
      case 9: both("collisions(" + model + ")", () -> real.collisions(model), () -> plain.collisions(model)); break;
      case 10: lookAtHistory(); break;
      case 11: both("node()", real::node, plain::node); break;
      case 12: both("observed()", real::observed, plain::observed); break;
      case 13: both("error()", real::error, plain::error); break;
      case 14: both("meanError()", real::meanError, plain::meanError); break;
      case 15: both("codeSize()", real::codeSize, plain::codeSize); break;
      case 16: lookAtCode(); break;
      case 17: both("outputSize()", real::outputSize, plain::outputSize); break;
      case 18: lookAtOutput(); break;
      case 19: both("ratio()", real::ratio, plain::ratio); break;
      default: lookAtCounter(model); break;
    }
  }

  private void lookAtText() {
    int place = number(0, plain.size() - 1);
    both("byteAt(" + place + ")", () -> real.byteAt(place), () -> plain.byteAt(place));
  }

  /** Half of the time a counter with a low number: more of these have learned. */
  private void lookAtCounter(int model) {
    int index = below(2) == 0 ? number(0, 15) : number(0, (16 << below(6)) - 1);
    both("counter(" + model + ", " + index + ")",
        () -> real.counter(model, index), () -> plain.counter(model, index));
  }

  private void lookAtWeight(int model) {
    int phase = number(0, 7);
    both("weight(" + model + ", " + phase + ")",
        () -> real.weight(model, phase), () -> plain.weight(model, phase));
  }

  private void lookAtHistory() {
    int back = number(0, 2);
    both("history(" + back + ")", () -> real.history(back), () -> plain.history(back));
  }

  private void lookAtCode() {
    int position = number(0, plain.codeSize() - 1);
    both("code(" + position + ")", () -> real.code(position), () -> plain.code(position));
  }

  private void lookAtOutput() {
    int place = number(0, plain.outputSize() - 1);
    both("output(" + place + ")", () -> real.output(place), () -> plain.output(place));
  }
}
