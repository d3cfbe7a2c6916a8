/** Promises 6 to 10, sentence by sentence: the text. */
final class TextEdges {
  private static final String MORE_THAN_80 =
      "Throws `IllegalStateException` if the text would have more than 80 bytes";

  private final Sentences s;

  TextEdges(Sentences s) {
    this.s = s;
  }

  void run() {
    feedAppends();
    feedOrdersBytes();
    feedAnswers();
    feedRefusesMany();
    feedRefusesOverflow();
    fillAppends();
    fillAnswers();
    fillRefusesArguments();
    fillRefusesOverflow();
    cutRemoves();
    cutAnswers();
    cutRefusesMany();
    size();
    byteAtAnswers();
    byteAtRefusesPlaces();
  }

  private static BitMixer withText(int size) {
    BitMixer x = new BitMixer();
    if (size > 0) {
      x.fill(3, size);
    }
    return x;
  }

  private static Scene textOf(int size) {
    return new Scene("with a text of " + size, () -> withText(size));
  }

  /** A call on the text alone: behind it, all but the text is as before. */
  private void leavesTheRest(String what, BitMixer x, Scene.Act act) {
    String before = rest(x);
    act.on(x);
    s.due(what + ", all but the text is left", before, () -> rest(x));
  }

  private static String rest(BitMixer x) {
    return x.observed() + " " + x.error() + " " + x.node() + " " + x.mixed() + " " + x.history(0) + " "
        + x.modelCount() + " " + x.codeSize() + " " + x.outputSize() + " " + Check.answerOf(() -> x.code(0));
  }

  private void feedAppends() {
    s.says("Promise 6", "Appends up to 8 bytes to the text.");
    for (int many = 1; many <= 8; many++) {
      BitMixer x = withText(2);
      x.feed(0x1112131415161718L, many);
      int most = many;
      s.due("the size behind " + many, 2 + many, x::size);
      s.due("the byte ahead of " + many, 3, () -> x.byteAt(1));
      s.due("the first of " + many, 0x19 - many, () -> x.byteAt(2));
      s.due("the last of " + many, 0x18, () -> x.byteAt(1 + most));
      s.due("behind the last of " + many, "throws." + Sentences.INDEX, () -> x.byteAt(2 + most));
    }
    BitMixer full = new BitMixer();
    for (int many = 0; many < 10; many++) {
      full.feed(0x0102030405060708L, 8);
    }
    s.due("ten times 8, the first", 1, () -> full.byteAt(72));
    s.due("ten times 8, the last", 8, () -> full.byteAt(79));
    leavesTheRest("feed", Scene.BUSY.make(), x -> x.feed(-1, 8));
  }

  private void feedOrdersBytes() {
    s.says("Promise 6", "- `bytes`: the bytes: the lowest byte of this number is the last one, the next one the "
        + "byte ahead of it, and so on");
    BitMixer x = new BitMixer();
    x.feed(Long.MIN_VALUE, 8);
    s.due("the highest byte is the first of 8", 128, () -> x.byteAt(0));
    s.due("the lowest byte is the last", 0, () -> x.byteAt(7));
    x.feed(-1L, 8);
    s.due("all of -1, the first", 255, () -> x.byteAt(8));
    s.due("all of -1, the last", 255, () -> x.byteAt(15));
    x.feed(0x7FFFFFFFFFFFFF00L, 1);
    s.due("higher bytes do not count", 0, () -> x.byteAt(16));
    x.feed(0x80FFL, 1);
    s.due("the lowest alone", 255, () -> x.byteAt(17));
    x.feed(0x80FFL, 2);
    s.due("the next one ahead of it", 128, () -> x.byteAt(18));
    x.feed(0L, 8);
    s.due("zeros are bytes", 28, x::size);
    x.feed(0x00000000FF000000L, 5);
    s.due("the fifth byte", 0, () -> x.byteAt(28));
    s.due("the fourth byte, across 32 bits", 255, () -> x.byteAt(29));
    x.feed(0x0000008000000000L, 5);
    s.due("the fifth byte, beyond 32 bits", 128, () -> x.byteAt(33));
  }

  private void feedAnswers() {
    s.says("Promise 6", "Returns the size of the text.");
    BitMixer x = new BitMixer();
    int size = 0;
    for (int many = 1; many <= 8; many++) {
      int now = many;
      size += many;
      s.due("feed " + many, size, () -> x.feed(0, now));
    }
    x.cut(30);
    s.due("feed behind cut", 7, () -> x.feed(0, 1));
    BitMixer nearlyFull = withText(79);
    s.due("feed to 80", 80, () -> nearlyFull.feed(0, 1));
  }

  private void feedRefusesMany() {
    s.says("Promise 6", "Throws `IllegalArgumentException` if many is not 1 to 8");
    for (Scene scene : Scene.ALL) {
      for (int wrong : Sentences.outside(1, 8)) {
        s.refused("many " + wrong, Sentences.ARGUMENT, scene, x -> x.feed(0x41, wrong));
      }
    }
    s.due("many 1", 1, () -> new BitMixer().feed(0x41, 1));
    s.due("many 8", 8, () -> new BitMixer().feed(0x41, 8));
  }

  private void feedRefusesOverflow() {
    s.says("Promise 6", MORE_THAN_80);
    for (int many = 1; many <= 8; many++) {
      int now = many;
      s.refused("feed " + many, Sentences.STATE, Scene.FULL, x -> x.feed(0x41, now));
      s.refused("feed " + many, Sentences.STATE, textOf(81 - many), x -> x.feed(0x41, now));
      s.due("feed " + many + " to 80", 80, () -> withText(80 - now).feed(0x41, now));
    }
    s.refused("feed 8", Sentences.STATE, textOf(79), x -> x.feed(0x41, 8));
    BitMixer x = Scene.FULL.make();
    x.cut(1);
    s.due("a full text that was cut", 80, () -> x.feed(0x41, 1));
  }

  private void fillAppends() {
    s.says("Promise 7", "Appends a byte several times.");
    for (int value : new int[] {0, 1, 127, 128, 255}) {
      BitMixer x = new BitMixer();
      x.feed(0x4142, 2);
      x.fill(value, 3);
      s.due("the byte ahead", 0x42, () -> x.byteAt(1));
      for (int i = 2; i < 5; i++) {
        int place = i;
        s.due("the byte at " + place, value, () -> x.byteAt(place));
      }
      s.due("behind it", "throws." + Sentences.INDEX, () -> x.byteAt(5));
    }
    BitMixer one = new BitMixer();
    one.fill(9, 1);
    s.due("once", 1, one::size);
    BitMixer most = new BitMixer();
    most.fill(255, 80);
    s.due("80 times, the first", 255, () -> most.byteAt(0));
    s.due("80 times, the last", 255, () -> most.byteAt(79));
    leavesTheRest("fill", Scene.BUSY.make(), x -> x.fill(255, 9));
  }

  private void fillAnswers() {
    s.says("Promise 7", "Returns the size of the text.");
    BitMixer x = new BitMixer();
    s.due("once", 1, () -> x.fill(0, 1));
    s.due("78 times more", 79, () -> x.fill(0, 78));
    s.due("once more, to 80", 80, () -> x.fill(0, 1));
    s.due("80 times at once", 80, () -> new BitMixer().fill(0, 80));
  }

  private void fillRefusesArguments() {
    s.says("Promise 7", "Throws `IllegalArgumentException` if value is not 0 to 255, or many is not 1 to 80");
    for (Scene scene : Scene.ALL) {
      for (int wrong : Sentences.outside(0, 255)) {
        s.refused("value " + wrong, Sentences.ARGUMENT, scene, x -> x.fill(wrong, 1));
      }
      for (int wrong : Sentences.outside(1, 80)) {
        s.refused("many " + wrong, Sentences.ARGUMENT, scene, x -> x.fill(0, wrong));
      }
      s.refused("value and many", Sentences.ARGUMENT, scene, x -> x.fill(256, 0));
    }
    s.due("value 0", 1, () -> new BitMixer().fill(0, 1));
    s.due("value 255", 1, () -> new BitMixer().fill(255, 1));
    s.due("many 80", 80, () -> new BitMixer().fill(0, 80));
  }

  private void fillRefusesOverflow() {
    s.says("Promise 7", MORE_THAN_80);
    for (int many : new int[] {1, 2, 79, 80}) {
      s.refused("fill " + many, Sentences.STATE, Scene.FULL, x -> x.fill(0, many));
      s.refused("fill " + many, Sentences.STATE, textOf(81 - many), x -> x.fill(0, many));
      s.due("fill " + many + " to 80", 80, () -> withText(80 - many).fill(0, many));
    }
    s.refused("fill 71", Sentences.STATE, Scene.BUSY, x -> x.fill(0, 71));
    s.due("fill 70 of ten bytes", 80, () -> Scene.BUSY.make().fill(0, 70));
  }

  private void cutRemoves() {
    s.says("Promise 8", "Removes the last bytes of the text.");
    BitMixer x = new BitMixer();
    x.feed(0x0102030405L, 5);
    x.cut(2);
    s.due("the last that is left", 3, () -> x.byteAt(2));
    s.due("the first that is gone", "throws." + Sentences.INDEX, () -> x.byteAt(3));
    x.feed(9, 1);
    s.due("a byte in its place", 9, () -> x.byteAt(3));
    s.due("the other one does not come back", "throws." + Sentences.INDEX, () -> x.byteAt(4));
    x.cut(4);
    s.due("all of it", "throws." + Sentences.INDEX, () -> x.byteAt(0));
    x.fill(7, 80);
    x.cut(80);
    s.due("all of 80", 0, x::size);
    for (Scene scene : Scene.ALL) {
      s.changesNothing("cut(0)", scene, y -> y.cut(0));
    }
    leavesTheRest("cut", Scene.BUSY.make(), y -> y.cut(10));
    leavesTheRest("cut", Scene.FULL.make(), y -> y.cut(80));
  }

  private void cutAnswers() {
    s.says("Promise 8", "Returns its size afterwards.");
    BitMixer x = withText(80);
    s.due("cut 0", 80, () -> x.cut(0));
    s.due("cut 1", 79, () -> x.cut(1));
    s.due("cut to one", 1, () -> x.cut(78));
    s.due("cut to none", 0, () -> x.cut(1));
    s.due("cut 0 of none", 0, () -> x.cut(0));
    s.due("cut 80 at once", 0, () -> withText(80).cut(80));
  }

  private void cutRefusesMany() {
    s.says("Promise 8", "Throws `IllegalArgumentException` if many is negative, or greater than its size");
    for (Scene scene : Scene.ALL) {
      for (int wrong : Sentences.outside(0, scene.make().size())) {
        s.refused("cut " + wrong, Sentences.ARGUMENT, scene, x -> x.cut(wrong));
      }
    }
    BitMixer x = withText(80);
    x.cut(79);
    s.due("two of the one that is left", "throws." + Sentences.ARGUMENT, () -> x.cut(2));
    s.due("the one that is left", 0, () -> x.cut(1));
    s.due("one of none", "throws." + Sentences.ARGUMENT, () -> x.cut(1));
  }

  private void size() {
    s.says("Promise 9", "Returns the size of the text.");
    s.due("none", 0, () -> new BitMixer().size());
    s.due("one", 1, () -> withText(1).size());
    s.due("80", 80, () -> withText(80).size());
    BitMixer x = withText(80);
    Check.answerOf(() -> x.feed(0, 1));
    Check.answerOf(() -> x.cut(81));
    s.due("behind refused calls", 80, x::size);
    x.encode();
    x.decode(3);
    s.due("behind encode and decode", 80, x::size);
    x.cut(80);
    s.due("behind cut", 0, x::size);
    for (Scene scene : Scene.ALL) {
      s.changesNothing("size", scene, BitMixer::size);
    }
  }

  private void byteAtAnswers() {
    s.says("Promise 10", "Returns the byte there, 0 to 255.");
    BitMixer x = new BitMixer();
    x.feed(0x00FF807F01L, 5);
    int[] due = {0, 255, 128, 127, 1};
    for (int i = 0; i < due.length; i++) {
      int place = i;
      s.due("byteAt(" + place + ")", due[place], () -> x.byteAt(place));
    }
    x.fill(200, 75);
    s.due("byteAt(79)", 200, () -> x.byteAt(79));
    for (Scene scene : Scene.ALL) {
      s.changesNothing("byteAt(0)", scene, y -> y.byteAt(0));
    }
  }

  private void byteAtRefusesPlaces() {
    s.says("Promise 10", "Throws `IndexOutOfBoundsException` if there is no such place");
    for (Scene scene : Scene.ALL) {
      for (int wrong : Sentences.outside(0, scene.make().size() - 1)) {
        s.refused("place " + wrong, Sentences.INDEX, scene, x -> x.byteAt(wrong));
      }
    }
    BitMixer x = withText(80);
    s.due("place 79", 3, () -> x.byteAt(79));
    s.due("place 80", "throws." + Sentences.INDEX, () -> x.byteAt(80));
    x.cut(1);
    s.due("place 79 behind cut", "throws." + Sentences.INDEX, () -> x.byteAt(79));
    s.due("place 78 behind cut", 3, () -> x.byteAt(78));
  }
}
