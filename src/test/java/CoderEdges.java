/** The arithmetic coder of the description, sentence by sentence. */
final class CoderEdges {
  private final Sentences s;

  CoderEdges(Sentences s) {
    this.s = s;
  }

  void run() {
    lowAndHigh();
    middle();
    halves();
    bytesOut();
    encoding();
    endOfEncoding();
    decodingResets();
    firstFourBytes();
    bitsOfDecoding();
    behindTheEnd();
  }

  private static BitMixer encoded(int... bytes) {
    BitMixer x = new BitMixer();
    for (int value : bytes) {
      x.fill(value, 1);
    }
    x.encode();
    return x;
  }

  /** One model of order 0 and rate 2 that sees a byte often, and then another one that it does not foresee. */
  private static BitMixer surprised(int value, int many, int other) {
    BitMixer x = new BitMixer();
    x.addModel(0, 2, 9);
    x.fill(value, many);
    x.fill(other, 1);
    x.encode();
    return x;
  }

  /** An object without models whose code is these bytes. */
  private static BitMixer withCode(int... bytes) {
    BitMixer x = new BitMixer();
    x.fill(255, 80);
    x.encode();
    for (int i = 0; i < bytes.length; i++) {
      x.setCode(i, bytes[i]);
    }
    x.cutCode(x.codeSize() - bytes.length);
    x.cut(80);
    return x;
  }

  /** What the first byte is that such a code is decoded to. */
  private static int decodedFrom(int... bytes) {
    BitMixer x = withCode(bytes);
    x.decode(1);
    return x.output(0);
  }

  private void codeIs(String what, BitMixer x, int... due) {
    s.due(what + ", its size", due.length, x::codeSize);
    for (int i = 0; i < due.length; i++) {
      int position = i;
      s.due(what + ", code(" + position + ")", due[position], () -> x.code(position));
    }
    s.due(what + ", decoded again", 0, () -> x.decode(x.size()));
  }

  private void lowAndHigh() {
    s.says("Description",
        "It has two numbers, low and high, from 0 to 2^32 - 1; at first low is 0 and high is 2^32 - 1.");
    codeIs("no bit leaves low at 0", encoded(), 0, 0, 0, 0);
    // (2^32 - 1) / 4096 is 0xFFFFF, so that the first middle is 0x7FFFF800
    codeIs("the first half of 0 to 2^32 - 1", encoded(0x7F), 0x7F, 0xFF, 0xF8, 0x01);
    BitMixer x = encoded(0x7F);
    x.encode();
    codeIs("at first again", x, 0x7F, 0xFF, 0xF8, 0x01);
    x.decode(1);
    x.encode();
    codeIs("at first again behind a decoding", x, 0x7F, 0xFF, 0xF8, 0x01);
    x.cut(1);
    x.encode();
    codeIs("at first again, no bit", x, 0, 0, 0, 0);
    // 640 zeros leave high alone: each byte that goes out is its 255, and 255 comes in
    BitMixer zeros = withFill(0);
    int[] end = {0xFE, 0xFB, 0x08, 0x07};
    for (int i = 0; i < 83; i++) {
      int position = i;
      s.due("high stays 2^32 - 1, code(" + i + ")", i < 79 ? 255 : end[i - 79], () -> zeros.code(position));
    }
    s.due("at first when decoding, x is 0", 255, () -> decodedFrom(0, 0, 0, 0));
    s.due("at first when decoding, x is 2^32 - 1", 0, () -> decodedFrom(255, 255, 255, 255));
  }

  private void middle() {
    s.says("Description", "For a bit with the mixed prediction p: let middle be low + ((high - low) / 4096) * p, the "
        + "quotient rounded down.");
    s.due("x is the middle of p 2048", 128, () -> decodedFrom(0x7F, 0xFF, 0xF8, 0x00) & 128);
    s.due("x is one more than that", 0, () -> decodedFrom(0x7F, 0xFF, 0xF8, 0x01) & 128);
    // a zero and 20 ones leave 0x7FFFF801 to 0x80000001, 2048 apart: the quotient is 0 and the middle is low
    codeIs("a quotient of 0, then a one", encoded(0x7F, 0xFF, 0xFF), 0x7F, 0xFF, 0xF8, 0x01, 0, 0, 0, 0);
    codeIs("a quotient of 0, then three zeros", encoded(0x7F, 0xFF, 0xF8), 0x7F, 0xFF, 0xF8, 0x04);
    greatPredictions();
  }

  /** With p 4093 a one leaves nearly all, and with p 3 nearly nothing. */
  private void greatPredictions() {
    BitMixer likely = surprised(255, 79, 255);
    BitMixer longer = surprised(255, 69, 255);
    s.due("ones that are foreseen cost next to nothing", likely.codeSize(), longer::codeSize);
    s.due("they are decoded", 0, () -> likely.decode(80));
    codeIs("a bit that is not foreseen", surprised(2, 28, 130), 0xFD, 0xF9, 0xFC, 0xC8, 0xFF, 0xF2, 0x77, 0x78, 0x01);
  }

  private void halves() {
    s.says("Description", "If the bit is 1, high becomes middle, otherwise low becomes middle + 1.");
    codeIs("ones leave low", encoded(0xFF), 0, 0, 0, 0, 0);
    codeIs("zeros raise low", encoded(0x00), 0xFE, 0xFF, 0xF8, 0x08);
    codeIs("a zero, then ones: one more than the middle", encoded(0x7F), 0x7F, 0xFF, 0xF8, 0x01);
    codeIs("a one, then zeros", encoded(0x80), 0x7E, 0xFF, 0xF0, 0x07);
    codeIs("zeros, then a one", encoded(0x01), 0xFD, 0xFF, 0xF8, 0x07);
  }

  private void bytesOut() {
    s.says("Description", "Then, as long as the highest bytes of low and high (of four) are equal: low becomes (256 * "
        + "low) mod 2^32, and high becomes (256 * high + 255) mod 2^32; when encoding, this byte is appended to the "
        + "code; when decoding, the next byte of the code comes in.");
    codeIs("none", encoded(0x00), 0xFE, 0xFF, 0xF8, 0x08);
    codeIs("one, of the value 0", encoded(0xFF), 0, 0, 0, 0, 0);
    codeIs("one and one more", encoded(0x41, 0x00, 0xFF), 0xBE, 0xFE, 0xEF, 0xFF, 0x07, 0x00);
    codeIs("two at once", encoded(0x7F, 0xFF, 0xDF), 0x80, 0x00, 0x18, 0x02, 0x00, 0x00);
    codeIs("three at once", surprised(207, 59, 255), 0x30, 0x3E, 0x7A, 0xFC, 0x42, 0x24, 0, 0, 0);
    codeIs("all four at once", encoded(0x7F, 0xFF, 0xFF), 0x7F, 0xFF, 0xF8, 0x01, 0, 0, 0, 0);
    codeIs("all four at once, with a model", surprised(107, 55, 255),
        0x94, 0x83, 0x50, 0x1B, 0xFF, 0xFA, 0xCD, 0, 0, 0, 0);
    longestCode();
  }

  /** 29 times a zero and 21 ones, which move four bytes out each time, and two ones more. */
  private void longestCode() {
    String bits = ("0" + "1".repeat(21)).repeat(29) + "11";
    BitMixer x = new BitMixer();
    for (int i = 0; i < 80; i++) {
      x.fill(Integer.parseInt(bits.substring(8 * i, 8 * i + 8), 2), 1);
    }
    s.due("a code that is longer than its text", 29 * 4 + 4, x::encode);
    int[] due = {0x7F, 0xFF, 0xF8, 0x01};
    for (int i = 0; i < 29 * 4; i++) {
      int position = i;
      s.due("that code at " + position, due[position % 4], () -> x.code(position));
    }
    s.due("that code is decoded", 0, () -> x.decode(80));
  }

  private void encoding() {
    s.says("Description", "Encoding: the predictor is reset; for each bit of the text, it is coded with the present "
        + "mixed prediction, then observed.");
    for (Scene scene : Scene.ALL) {
      s.same("the predictor is reset, " + scene.name, scene.then("encode", BitMixer::encode),
          scene.then("reset", BitMixer::reset).then("encode", BitMixer::encode));
    }
    BitMixer empty = Scene.FULL.make();
    empty.cut(80);
    empty.encode();
    s.due("an empty text, observed", 0, empty::observed);
    s.due("an empty text, a counter", 2048, () -> empty.counter(0, empty.index(0)));
    s.due("80 bytes, observed", 640, () -> surprised(1, 79, 2).observed());
    // 256 ones that are foreseen better and better: they would be coded in 32 bytes without learning
    BitMixer x = surprised(255, 31, 255);
    s.due("it learns while it encodes", true, () -> x.codeSize() < 16);
    // the first bit of all is coded with 2048 still, ahead of its being observed
    BitMixer one = new BitMixer();
    one.addModel(0, 2, 9);
    one.fill(0x7F, 1);
    one.encode();
    codeIs("coded, then observed", one, 0x7F, 0xFF, 0xF8, 0x01);
  }

  private void endOfEncoding() {
    s.says("Description", "At the end the four bytes of low are appended, the highest one first.");
    codeIs("an empty text", encoded(), 0, 0, 0, 0);
    codeIs("four different bytes", encoded(0x80), 0x7E, 0xFF, 0xF0, 0x07);
    codeIs("behind bytes that went out", encoded(0x7F, 0xFF, 0xDF), 0x80, 0x00, 0x18, 0x02, 0x00, 0x00);
    s.due("80 bytes", 84, () -> withFill(255).codeSize());
    s.due("80 bytes, the last one", 0, () -> withFill(255).code(83));
  }

  private static BitMixer withFill(int value) {
    BitMixer x = new BitMixer();
    x.fill(value, 80);
    x.encode();
    return x;
  }

  private void decodingResets() {
    s.says("Description", "Decoding: the predictor is reset.");
    for (Scene scene : Scene.ALL) {
      for (int many : new int[] {0, 1, 80}) {
        Scene.Act decode = x -> x.decode(many);
        s.same("decode(" + many + ") " + scene.name, scene.then("decode", decode),
            scene.then("reset", BitMixer::reset).then("decode", decode));
      }
    }
    BitMixer x = Scene.BUSY.make();
    x.decode(0);
    s.due("no byte, observed", 0, x::observed);
    s.due("no byte, node", 1, x::node);
    s.due("no byte, error", 0, x::error);
    s.due("no byte, a counter", 2048, () -> x.counter(0, 1));
  }

  private void firstFourBytes() {
    s.says("Description", "The number x is made of the first four bytes of the code, the highest one first.");
    s.due("the first byte is the highest", 0x80, () -> decodedFrom(0x7E, 0xFF, 0xF0, 0x07));
    s.due("the last byte is the lowest", 0x80 | 0x01, () -> decodedFrom(0x7E, 0xFF, 0xF0, 0x06));
    s.due("each of them counts, the second", 0x81, () -> decodedFrom(0x7E, 0xFE, 0xF0, 0x07));
    s.due("each of them counts, the third", 0x81, () -> decodedFrom(0x7E, 0xFF, 0xEF, 0x07));
    s.due("the fifth does not count yet", 0x80, () -> decodedFrom(0x7E, 0xFF, 0xF0, 0x07, 0xFF));
    s.due("the greatest x", 0, () -> decodedFrom(255, 255, 255, 255));
    s.due("the least x", 255, () -> decodedFrom(0, 0, 0, 0));
    s.due("a byte of 128 is not negative", 0x7F, () -> decodedFrom(0x80, 0, 0, 0));
  }

  private void bitsOfDecoding() {
    s.says("Description", "For each bit that is asked for: it is 1 if x is not greater than middle, otherwise 0; low "
        + "and high change as for encoding, and with each byte that they lose, x becomes (256 * x) mod 2^32 plus the "
        + "next byte of the code; then the bit is observed.");
    s.due("x is less than the middle", 128, () -> decodedFrom(0x7F, 0xFF, 0xF7, 0xFF) & 128);
    s.due("x is the middle", 128, () -> decodedFrom(0x7F, 0xFF, 0xF8, 0x00) & 128);
    s.due("x is greater than the middle", 0, () -> decodedFrom(0x7F, 0xFF, 0xF8, 0x01) & 128);
    // a code of 255 alone keeps x at high, one of 0 alone at low
    BitMixer highest = withFill(255);
    for (int i = 0; i < 84; i++) {
      highest.setCode(i, 255);
    }
    s.due("x is always high", 80, () -> highest.decode(80));
    for (int i = 0; i < 80; i++) {
      int place = i;
      s.due("x is always high, output(" + place + ")", 0, () -> highest.output(place));
    }
    s.due("x is always low", 0, () -> withFill(255).decode(80));
    s.due("x is always low, observed", 640, () -> decoded(withFill(255), 80).observed());
    // eight ones leave 0 to 0x00FFF800, then the fifth byte comes in, and the middle is 0x7FFC0000
    s.due("the next byte, x is the middle", 128, () -> secondOf(0, 0x7F, 0xFC, 0x00, 0x00) & 128);
    s.due("the next byte, x is one more", 0, () -> secondOf(0, 0x7F, 0xFC, 0x00, 0x01) & 128);
    s.due("the byte behind that one does not count yet", 128, () -> secondOf(0, 0x7F, 0xFC, 0, 0, 0xFF) & 128);
    s.due("a changed code is decoded to the end", 80, () -> decoded(changed(), 80).outputSize());
    s.due("the bits are observed", 0xFF, () -> decoded(withCode(), 3).history(2));
    s.due("the bits are learned", 2560, () -> taughtByNoCode().counter(0, 1));
  }

  private static BitMixer taughtByNoCode() {
    BitMixer x = new BitMixer();
    x.addModel(0, 2, 9);
    x.decode(1);
    return x;
  }

  private static BitMixer decoded(BitMixer x, int many) {
    x.decode(many);
    return x;
  }

  private static int secondOf(int... bytes) {
    return decoded(withCode(bytes), 2).output(1);
  }

  private static BitMixer changed() {
    BitMixer x = Scene.FULL.make();
    for (int i = 0; i < x.codeSize(); i++) {
      x.setCode(i, 255 - x.code(i));
    }
    return x;
  }

  private void behindTheEnd() {
    s.says("Description", "Bytes behind the end of the code are 0.");
    s.due("no code", 255, () -> decodedFrom());
    s.due("one byte", decodedFrom(0xFE, 0, 0, 0), () -> decodedFrom(0xFE));
    s.due("one byte, by hand", 1, () -> decodedFrom(0xFE));
    s.due("two bytes", decodedFrom(0xFE, 0xFF, 0, 0), () -> decodedFrom(0xFE, 0xFF));
    s.due("three bytes", decodedFrom(0xFE, 0xFF, 0xF8, 0), () -> decodedFrom(0xFE, 0xFF, 0xF8));
    s.due("three bytes, by hand", 1, () -> decodedFrom(0xFE, 0xFF, 0xF8));
    s.due("four bytes", 0, () -> decodedFrom(0xFE, 0xFF, 0xF8, 0x08));
    for (Scene scene : new Scene[] {Scene.BARE, Scene.BUSY, Scene.SIX, Scene.FULL}) {
      int size = scene.make().codeSize();
      for (int i = 0; i <= size; i++) {
        int many = i;
        BitMixer zeros = decoded(zeroed(scene.make(), many), 80);
        BitMixer cut = scene.make();
        cut.cutCode(many);
        decoded(cut, 80);
        s.due(many + " bytes cut " + scene.name, outputOf(zeros), () -> outputOf(cut));
        s.due(many + " bytes cut " + scene.name + ", the error", zeros.error(), cut::error);
      }
    }
    s.due("80 bytes of no code", 80, () -> new BitMixer().decode(80));
    // the bytes that were cut are still held somewhere, but they do not count
    BitMixer x = withFill(0);
    x.cutCode(83);
    x.decode(80);
    s.due("what was cut does not come in", 255, () -> x.output(79));
  }

  private static BitMixer zeroed(BitMixer x, int many) {
    for (int i = x.codeSize() - many; i < x.codeSize(); i++) {
      x.setCode(i, 0);
    }
    return x;
  }

  private static String outputOf(BitMixer x) {
    StringBuilder all = new StringBuilder();
    for (int place = 0; place < x.outputSize(); place++) {
      all.append(x.output(place)).append(' ');
    }
    return all.toString();
  }
}
