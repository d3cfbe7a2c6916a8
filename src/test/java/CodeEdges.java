import java.math.BigInteger;
import java.util.ArrayList;
import java.util.List;

/** Promises 25 to 34, sentence by sentence: codes, what was decoded, and the checksum. */
final class CodeEdges {
  private static final String NO_SUCH_POSITION = "Throws `IndexOutOfBoundsException` if there is no such position";

  private final Sentences s;

  CodeEdges(Sentences s) {
    this.s = s;
  }

  void run() {
    encodeEncodes();
    encodeAnswers();
    codeSize();
    codeAnswers();
    codeRefusesPositions();
    setCodeReplaces();
    setCodeAnswers();
    setCodeRefusesPositions();
    setCodeRefusesValues();
    cutCodeRemoves();
    cutCodeAnswers();
    cutCodeRefusesMany();
    decodeDecodes();
    decodeAnswers();
    decodeRefusesMany();
    outputSize();
    outputAnswers();
    outputRefusesPlaces();
    ratio();
    digestComputes();
    digestCounts();
    digestAnswers();
  }

  private void changesNothing(String what, Scene.Act act) {
    for (Scene scene : Scene.ALL) {
      s.changesNothing(what, scene, act);
    }
  }

  /** Without models a zero byte's code is FE FF F8 08, and that of 255 five zeros. */
  private static BitMixer zeroEncoded() {
    BitMixer x = new BitMixer();
    x.fill(0, 1);
    x.encode();
    return x;
  }

  private void codeIs(String what, BitMixer x, int... due) {
    s.due(what + ", its size", due.length, x::codeSize);
    for (int i = 0; i < due.length; i++) {
      int position = i;
      s.due(what + ", code(" + position + ")", due[position], () -> x.code(position));
    }
    s.due(what + ", behind its end", "throws." + Sentences.INDEX, () -> x.code(due.length));
  }

  private void encodeEncodes() {
    s.says("Promise 25", "Encodes the text; the new code replaces the code.");
    BitMixer x = new BitMixer();
    x.encode();
    codeIs("an empty text", x, 0, 0, 0, 0);
    x.fill(255, 1);
    x.encode();
    codeIs("one byte, a longer code than before", x, 0, 0, 0, 0, 0);
    x.cut(1);
    x.fill(0, 1);
    x.encode();
    codeIs("one byte, a shorter code than before", x, 0xFE, 0xFF, 0xF8, 0x08);
    x.setCode(0, 1);
    x.cutCode(3);
    x.encode();
    codeIs("a code that was changed and cut", x, 0xFE, 0xFF, 0xF8, 0x08);
    BitMixer full = Scene.FULL.make();
    full.encode();
    s.due("a text of 80 bytes is decoded whole", 0, () -> full.decode(80));
    full.cut(80);
    full.encode();
    codeIs("an empty text behind a full one, with a model", full, 0, 0, 0, 0);
    s.due("the text is left", 0, full::size);
    s.due("what was decoded is left", 80, full::outputSize);
    s.due("the models are left", 1, full::modelCount);
    for (Scene scene : Scene.ALL) {
      s.same("encode twice " + scene.name, scene.then("encode", BitMixer::encode),
          scene.then("encode", BitMixer::encode).then("encode", BitMixer::encode));
    }
  }

  private void encodeAnswers() {
    s.says("Promise 25", "Returns the size of the code.");
    BitMixer x = new BitMixer();
    s.due("an empty text", 4, x::encode);
    x.fill(255, 1);
    s.due("a byte of ones", 5, x::encode);
    x.cut(1);
    x.fill(0, 1);
    s.due("a byte of zeros", 4, x::encode);
    x.cut(1);
    s.due("an empty text again", 4, x::encode);
    x.fill(255, 80);
    // a byte of the code for each of the text, and low at the end
    s.due("80 bytes without models", 84, x::encode);
    BitMixer six = Scene.SIX.make();
    int due = six.codeSize();
    s.due("six models", due, six::encode);
  }

  private void codeSize() {
    s.says("Promise 26", "Returns the size of the code.");
    s.due("at first", 0, () -> new BitMixer().codeSize());
    BitMixer x = new BitMixer();
    x.decode(80);
    s.due("behind a decoding without a code", 0, x::codeSize);
    x.encode();
    s.due("of an empty text", 4, x::codeSize);
    x.fill(255, 80);
    s.due("behind fill", 4, x::codeSize);
    x.encode();
    s.due("of 80 bytes", 84, x::codeSize);
    Check.answerOf(() -> x.cutCode(85));
    s.due("behind a refused cut", 84, x::codeSize);
    x.cutCode(83);
    s.due("one byte", 1, x::codeSize);
    x.cutCode(1);
    s.due("none", 0, x::codeSize);
    changesNothing("codeSize", BitMixer::codeSize);
  }

  private void codeAnswers() {
    s.says("Promise 27", "Returns the byte there, 0 to 255.");
    BitMixer x = zeroEncoded();
    codeIs("a zero", x, 0xFE, 0xFF, 0xF8, 0x08);
    x.setCode(0, 0);
    x.setCode(1, 255);
    x.setCode(2, 128);
    codeIs("bytes that were set", x, 0, 255, 128, 0x08);
    changesNothing("code(0)", y -> y.code(0));
  }

  private void codeRefusesPositions() {
    s.says("Promise 27", NO_SUCH_POSITION);
    for (Scene scene : Scene.ALL) {
      for (int wrong : Sentences.outside(0, scene.make().codeSize() - 1)) {
        s.refused("position " + wrong, Sentences.INDEX, scene, x -> x.code(wrong));
      }
    }
    BitMixer x = zeroEncoded();
    s.due("the last", 8, () -> x.code(3));
    x.cutCode(1);
    s.due("the last behind cutCode", "throws." + Sentences.INDEX, () -> x.code(3));
    s.due("the one before", 0xF8, () -> x.code(2));
    x.cutCode(3);
    s.due("the first of an empty code", "throws." + Sentences.INDEX, () -> x.code(0));
  }

  private void setCodeReplaces() {
    s.says("Promise 28", "Replaces a byte of the code.");
    BitMixer x = zeroEncoded();
    x.setCode(0, 255);
    codeIs("the first, the greatest", x, 255, 0xFF, 0xF8, 0x08);
    x.setCode(3, 0);
    codeIs("the last, the least", x, 255, 0xFF, 0xF8, 0);
    x.setCode(0, 0xFE);
    x.setCode(3, 8);
    s.due("bytes that were put back", zeroEncoded().digest(), x::digest);
    s.due("the code decodes again", 0, () -> x.decode(1));
    BitMixer busy = Scene.BUSY.make();
    long error = busy.error();
    busy.setCode(0, 1);
    s.due("the predictor is left", error, busy::error);
    s.due("what was decoded is left", 6, busy::outputSize);
    s.due("the text is left", 0x61, () -> busy.byteAt(0));
    for (Scene scene : new Scene[] {Scene.BARE, Scene.BUSY, Scene.SIX, Scene.FULL}) {
      s.changesNothing("setCode to the byte that is there", scene, y -> y.setCode(0, y.code(0)));
    }
  }

  private void setCodeAnswers() {
    s.says("Promise 28", "Returns the byte before.");
    BitMixer x = zeroEncoded();
    s.due("of the code", 0xFF, () -> x.setCode(1, 0));
    s.due("the least", 0, () -> x.setCode(1, 255));
    s.due("the greatest", 255, () -> x.setCode(1, 255));
    s.due("the same", 255, () -> x.setCode(1, 9));
    s.due("refused", "throws." + Sentences.ARGUMENT, () -> x.setCode(1, 256));
    s.due("behind a refusal", 9, () -> x.setCode(1, 128));
    s.due("128 is not negative", 128, () -> x.setCode(1, 0));
  }

  private void setCodeRefusesPositions() {
    s.says("Promise 28", NO_SUCH_POSITION);
    for (Scene scene : Scene.ALL) {
      for (int wrong : Sentences.outside(0, scene.make().codeSize() - 1)) {
        s.refused("position " + wrong, Sentences.INDEX, scene, x -> x.setCode(wrong, 1));
      }
    }
    BitMixer x = zeroEncoded();
    x.cutCode(1);
    s.due("the last behind cutCode", "throws." + Sentences.INDEX, () -> x.setCode(3, 1));
    s.due("the one before", 0xF8, () -> x.setCode(2, 1));
    s.due("its size is left", 3, x::codeSize);
  }

  private void setCodeRefusesValues() {
    s.says("Promise 28", "Throws `IllegalArgumentException` if value is not 0 to 255");
    for (Scene scene : new Scene[] {Scene.BARE, Scene.BUSY, Scene.SIX, Scene.FULL}) {
      int last = scene.make().codeSize() - 1;
      for (int wrong : Sentences.outside(0, 255)) {
        s.refused("value " + wrong + " at the first", Sentences.ARGUMENT, scene, x -> x.setCode(0, wrong));
        s.refused("value " + wrong + " at the last", Sentences.ARGUMENT, scene, x -> x.setCode(last, wrong));
      }
    }
    s.due("value 0", 0xFE, () -> zeroEncoded().setCode(0, 0));
    s.due("value 255", 0xFE, () -> zeroEncoded().setCode(0, 255));
  }

  private void cutCodeRemoves() {
    s.says("Promise 29", "Removes the last bytes of the code.");
    BitMixer x = zeroEncoded();
    x.cutCode(1);
    codeIs("one", x, 0xFE, 0xFF, 0xF8);
    x.cutCode(2);
    codeIs("two more", x, 0xFE);
    x.cutCode(1);
    codeIs("the first", x);
    x.encode();
    codeIs("encoded again", x, 0xFE, 0xFF, 0xF8, 0x08);
    x.cutCode(4);
    codeIs("all at once", x);
    s.due("the text is left", 1, x::size);
    s.due("the predictor is left", 8, x::observed);
    changesNothing("cutCode(0)", y -> y.cutCode(0));
  }

  private void cutCodeAnswers() {
    s.says("Promise 29", "Returns its size afterwards.");
    BitMixer x = zeroEncoded();
    s.due("cut 0", 4, () -> x.cutCode(0));
    s.due("cut 1", 3, () -> x.cutCode(1));
    s.due("cut the rest", 0, () -> x.cutCode(3));
    s.due("cut 0 of none", 0, () -> x.cutCode(0));
    s.due("cut 0 at first", 0, () -> new BitMixer().cutCode(0));
  }

  private void cutCodeRefusesMany() {
    s.says("Promise 29", "Throws `IllegalArgumentException` if many is negative, or greater than its size");
    for (Scene scene : Scene.ALL) {
      for (int wrong : Sentences.outside(0, scene.make().codeSize())) {
        s.refused("cutCode " + wrong, Sentences.ARGUMENT, scene, x -> x.cutCode(wrong));
      }
    }
    BitMixer x = zeroEncoded();
    s.due("five of four", "throws." + Sentences.ARGUMENT, () -> x.cutCode(5));
    s.due("four of four", 0, () -> x.cutCode(4));
    s.due("one of none", "throws." + Sentences.ARGUMENT, () -> x.cutCode(1));
  }

  private void decodeDecodes() {
    s.says("Promise 30", "Decodes bytes of the code; they replace what was decoded before.");
    BitMixer x = new BitMixer();
    x.decode(80);
    s.due("80 of no code, the first", 255, () -> x.output(0));
    s.due("80 of no code, the last", 255, () -> x.output(79));
    x.feed(0x4100FF, 3);
    x.encode();
    x.decode(1);
    s.due("one, its size", 1, x::outputSize);
    s.due("one", 0x41, () -> x.output(0));
    s.due("one, the others are gone", "throws." + Sentences.INDEX, () -> x.output(1));
    x.decode(3);
    s.due("three, the first", 0x41, () -> x.output(0));
    s.due("three, the second", 0, () -> x.output(1));
    s.due("three, the last", 255, () -> x.output(2));
    x.decode(0);
    s.due("none, its size", 0, x::outputSize);
    s.due("none", "throws." + Sentences.INDEX, () -> x.output(0));
    s.due("the code is left", 6, x::codeSize);
    s.due("the text is left", 3, x::size);
    for (Scene scene : Scene.ALL) {
      for (int many : new int[] {0, 1, 80}) {
        Scene.Act decode = y -> y.decode(many);
        s.same("decode(" + many + ") twice " + scene.name, scene.then("decode", decode),
            scene.then("decode", decode).then("decode", decode));
      }
    }
  }

  private void decodeAnswers() {
    s.says("Promise 30", "Returns at how many places the text and what was decoded are different; places at which "
        + "only one of them has a byte are counted, too.");
    s.due("neither has any", 0, () -> new BitMixer().decode(0));
    s.due("no text", 80, () -> new BitMixer().decode(80));
    s.due("no text and one byte", 1, () -> new BitMixer().decode(1));
    s.due("a full text and nothing decoded", 80, () -> Scene.FULL.make().decode(0));
    s.due("a full text and one byte", 79, () -> Scene.FULL.make().decode(1));
    s.due("a full text and all but one byte", 1, () -> Scene.FULL.make().decode(79));
    s.due("a full text, decoded whole", 0, () -> Scene.FULL.make().decode(80));
    // without a code there are only bytes 255
    BitMixer x = new BitMixer();
    x.feed(0xFF00FFFEL, 4);
    s.due("different at the second and the last", 2, () -> x.decode(4));
    s.due("and one byte more", 3, () -> x.decode(5));
    s.due("and one byte less, which was different", 2, () -> x.decode(3));
    s.due("and all bytes but the first", 3, () -> x.decode(1));
    s.due("all of them are compared", 78, () -> x.decode(80));
    BitMixer all = new BitMixer();
    all.fill(0, 80);
    s.due("80 that are different", 80, () -> all.decode(80));
    // a zero that only the text has is no byte of what was decoded
    BitMixer zeros = new BitMixer();
    zeros.fill(0, 2);
    zeros.encode();
    s.due("a zero that was not decoded", 1, () -> zeros.decode(1));
    zeros.cut(1);
    s.due("a zero that only was decoded", 1, () -> zeros.decode(2));
    zeros.cut(1);
    s.due("an old text does not count", 2, () -> zeros.decode(2));
    // what an earlier decoding left does not count either
    zeros.fill(0, 2);
    s.due("an old decoding does not count", 2, () -> zeros.decode(0));
  }

  private void decodeRefusesMany() {
    s.says("Promise 30", "Throws `IllegalArgumentException` if many is not 0 to 80");
    for (Scene scene : Scene.ALL) {
      for (int wrong : Sentences.outside(0, 80)) {
        s.refused("decode " + wrong, Sentences.ARGUMENT, scene, x -> x.decode(wrong));
      }
    }
    s.due("decode 0", 0, () -> new BitMixer().decode(0));
    s.due("decode 80", 80, () -> new BitMixer().decode(80));
  }

  private void outputSize() {
    s.says("Promise 31", "Returns how many bytes the latest decoding made; 0 if there was none.");
    s.due("none", 0, () -> new BitMixer().outputSize());
    s.due("none, but an encoding", 0, () -> zeroEncoded().outputSize());
    BitMixer x = new BitMixer();
    for (int many : new int[] {80, 1, 79, 0, 2}) {
      x.decode(many);
      s.due("behind decode(" + many + ")", many, x::outputSize);
    }
    Check.answerOf(() -> x.decode(81));
    s.due("behind a refused one", 2, x::outputSize);
    x.encode();
    x.reset();
    x.fill(1, 80);
    x.cutCode(4);
    s.due("behind calls that do not decode", 2, x::outputSize);
    changesNothing("outputSize", BitMixer::outputSize);
  }

  private void outputAnswers() {
    s.says("Promise 32", "Returns the byte there, 0 to 255.");
    BitMixer x = new BitMixer();
    x.addModel(2, 3, 5);
    x.feed(0x00FF807F01L, 5);
    x.fill(200, 75);
    x.encode();
    x.decode(80);
    int[] due = {0, 255, 128, 127, 1, 200};
    for (int i = 0; i < due.length; i++) {
      int place = i;
      s.due("output(" + place + ")", due[place], () -> x.output(place));
    }
    s.due("output(79)", 200, () -> x.output(79));
    x.cut(80);
    x.encode();
    x.removeModel();
    s.due("output(79) once text, code and models are gone", 200, () -> x.output(79));
    changesNothing("output(0)", y -> y.output(0));
  }

  private void outputRefusesPlaces() {
    s.says("Promise 32", "Throws `IndexOutOfBoundsException` if there is no such place");
    for (Scene scene : Scene.ALL) {
      for (int wrong : Sentences.outside(0, scene.make().outputSize() - 1)) {
        s.refused("place " + wrong, Sentences.INDEX, scene, x -> x.output(wrong));
      }
    }
    BitMixer x = new BitMixer();
    x.decode(80);
    s.due("place 79", 255, () -> x.output(79));
    x.decode(79);
    s.due("place 79 of 79", "throws." + Sentences.INDEX, () -> x.output(79));
    s.due("place 78 of 79", 255, () -> x.output(78));
    x.decode(0);
    s.due("place 0 of none", "throws." + Sentences.INDEX, () -> x.output(0));
  }

  private void ratio() {
    s.says("Promise 33", "Returns the size of the code divided by the size of the text; 0 if the text is empty.");
    s.due("neither", 0.0, () -> new BitMixer().ratio());
    BitMixer x = new BitMixer();
    x.encode();
    s.due("an empty text with a code", 0.0, x::ratio);
    x.fill(255, 3);
    s.due("a text that is not encoded", 4.0 / 3.0, x::ratio);
    x.cutCode(4);
    s.due("a text and an empty code", 0.0, x::ratio);
    x.fill(255, 77);
    x.encode();
    s.due("80 bytes", 84.0 / 80.0, x::ratio);
    x.cutCode(83);
    s.due("the least but 0", 1.0 / 80.0, x::ratio);
    x.encode();
    x.cut(79);
    s.due("one byte of text", 84.0, x::ratio);
    x.cut(1);
    s.due("a text that was cut to nothing", 0.0, x::ratio);
    changesNothing("ratio", BitMixer::ratio);
  }

  private static List<Integer> entries(int many, java.util.function.IntUnaryOperator at) {
    List<Integer> all = new ArrayList<>();
    all.add(many);
    for (int i = 0; i < many; i++) {
      all.add(at.applyAsInt(i));
    }
    return all;
  }

  /** The numbers of the digest, in its order; order and t of a model cannot be asked for. */
  private static List<Integer> numbersOf(BitMixer x, int[][] models) {
    List<Integer> all = new ArrayList<>(List.of(models.length));
    for (int m = 0; m < models.length; m++) {
      for (int own : models[m]) {
        all.add(own);
      }
      for (int phase = 0; phase < 8; phase++) {
        all.add(x.weight(m, phase));
      }
      all.add(x.collisions(m));
    }
    all.addAll(entries(x.size(), x::byteAt));
    all.addAll(List.of(x.node(), x.observed(), (int) x.error()));
    all.addAll(entries(x.codeSize(), x::code));
    all.addAll(entries(x.outputSize(), x::output));
    return all;
  }

  private static BigInteger unbounded(List<Integer> numbers) {
    BigInteger d = BigInteger.valueOf(103);
    for (int x : numbers) {
      d = d.multiply(BigInteger.valueOf(31)).add(BigInteger.valueOf(x));
    }
    return d;
  }

  private static final int[][] NO_MODELS = {};
  private static final int[][] BUSY_MODELS = {{0, 2, 4}, {1, 3, 5}, {3, 4, 9}};
  private static final int[][] SIX_MODELS = {{0, 2, 9}, {1, 3, 8}, {2, 4, 7}, {3, 5, 6}, {0, 6, 5}, {1, 7, 4}};
  private static final int[][] FULL_MODELS = {{1, 4, 6}};

  private void digestComputes() {
    s.says("Promise 34", "Computes a checksum.");
    changesNothing("digest", BitMixer::digest);
    for (Scene scene : Scene.ALL) {
      s.due("the same state, made anew, " + scene.name, scene.make().digest(), () -> scene.make().digest());
    }
  }

  private void digestCounts() {
    s.says("Promise 34", "A number d starts with 103; for each of the following numbers x, d becomes d * 31 + x, "
        + "which wraps around as a 64-bit integer: the number of models, and for each of them its order, its rate, "
        + "its t, its weights in the phases 0 to 7, and its collisions; the size of the text, and its bytes; the "
        + "node; the number of bits that were observed; the error; the size of the code, and its bytes; the number "
        + "of bytes that were decoded, and these.");
    int[][][] models = {NO_MODELS, NO_MODELS, BUSY_MODELS, SIX_MODELS, FULL_MODELS};
    for (int i = 0; i < models.length; i++) {
      Scene scene = Scene.ALL[i];
      BigInteger due = unbounded(numbersOf(scene.make(), models[i]));
      s.due(scene.name, due.longValue(), () -> scene.make().digest());
      boolean mustWrap = scene != Scene.NEW;
      s.due(scene.name + ", whether it wraps around", mustWrap, () -> due.bitLength() > 63);
    }
    BitMixer six = Scene.SIX.make();
    List<Integer> numbers = numbersOf(six, SIX_MODELS);
    s.due("six models, how many numbers", 1 + 6 * 12 + 1 + 12 + 3 + 1 + six.codeSize() + 1 + 12, numbers::size);
  }

  private void digestAnswers() {
    s.says("Promise 34", "Returns d.");
    // 103 * 31^7 + 31^4: of the seven numbers only the node, the third, is not 0
    s.due("of a new object", 103 * 27512614111L + 923521, () -> new BitMixer().digest());
    long d = 103;
    for (int x : new int[] {0, 1, 255, 1, 0, 0, 0, 0}) {
      d = d * 31 + x;
    }
    long due = d;
    BitMixer one = new BitMixer();
    one.fill(255, 1);
    s.due("of a text", due, one::digest);
    one.observe(false);
    s.due("of another state", false, () -> one.digest() == due);
    s.due("one that is negative", true, CodeEdges::someDigestIsNegative);
  }

  private static boolean someDigestIsNegative() {
    for (Scene scene : Scene.ALL) {
      if (scene.make().digest() < 0) {
        return true;
      }
    }
    return false;
  }
}
