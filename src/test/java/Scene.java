import java.util.ArrayList;
import java.util.List;

/**
 * A state of an object that can be made anew as often as a test wants. All that can be seen
 * of it takes more than the 512 calls of an object's life, so that each part of it is looked
 * at on an object of its own.
 */
final class Scene {
  interface Maker {
    BitMixer make();
  }

  interface Act {
    Object on(BitMixer x);
  }

  private static final int PART = 256;
  private static final Act NOTHING = x -> null;

  /** Nothing was called yet. */
  static final Scene NEW = new Scene("a new object", BitMixer::new);
  /** A text, a code, something decoded and a byte that is not whole, but no models. */
  static final Scene BARE = new Scene("without models", Scene::bare);
  /** Three models that have learned, a text, a changed code, something decoded, and five bits of a byte. */
  static final Scene BUSY = new Scene("with three models", Scene::busy);
  /** Six models that have learned, one of each rate and table size. */
  static final Scene SIX = new Scene("with six models", Scene::six);
  /** A text of 80 bytes, its code and as many decoded bytes. */
  static final Scene FULL = new Scene("with a full text", Scene::full);

  static final Scene[] ALL = {NEW, BARE, BUSY, SIX, FULL};

  final String name;
  private final Maker maker;
  private List<String> untouched = null;

  Scene(String name, Maker maker) {
    this.name = name;
    this.maker = maker;
  }

  BitMixer make() {
    return maker.make();
  }

  /** The same, with a call more. */
  Scene then(String call, Act act) {
    return new Scene(name + ", then " + call, () -> touched(act));
  }

  static BitMixer observing(BitMixer x, String bits) {
    for (int i = 0; i < bits.length(); i++) {
      x.observe(bits.charAt(i) == '1');
    }
    return x;
  }

  private static BitMixer bare() {
    BitMixer x = new BitMixer();
    x.feed(0x00FF4180L, 4);
    x.encode();
    x.decode(3);
    return observing(x, "11000001" + "01000001" + "10000000" + "00101");
  }

  private static BitMixer busy() {
    BitMixer x = new BitMixer();
    x.addModel(0, 2, 4);
    x.addModel(1, 3, 5);
    x.addModel(3, 4, 9);
    x.feed(0x6161626100FF6161L, 8);
    x.encode();
    x.setCode(2, 77);
    x.decode(6);
    x.feed(0x6263L, 2);
    return observing(x, "01100001" + "01100010" + "01100");
  }

  private static BitMixer six() {
    BitMixer x = new BitMixer();
    for (int model = 0; model < 6; model++) {
      x.addModel(model % 4, 2 + model, 9 - model);
    }
    x.fill(0x61, 7);
    x.feed(0x6261626162L, 5);
    x.encode();
    x.decode(12);
    return observing(x, "01100001" + "011");
  }

  private static BitMixer full() {
    BitMixer x = new BitMixer();
    x.addModel(1, 4, 6);
    x.fill(0x55, 70);
    x.feed(0x0001FEFF7F80L, 6);
    x.fill(0xAA, 4);
    x.encode();
    x.decode(80);
    return observing(x, "1");
  }

  private BitMixer touched(Act act) {
    BitMixer x = maker.make();
    Check.answerOf(() -> act.on(x));
    return x;
  }

  /** The first thing that is not as it was once act is called, or "nothing". */
  String changedBy(Act act) {
    if (untouched == null) {
      untouched = traces(NOTHING);
    }
    return firstDifference(untouched, traces(act));
  }

  /** The first thing in which the two scenes are not the same, or "nothing". */
  String differenceFrom(Scene other) {
    return firstDifference(traces(NOTHING), other.traces(NOTHING));
  }

  private static String firstDifference(List<String> before, List<String> behind) {
    for (int i = 0; i < before.size() && i < behind.size(); i++) {
      if (!before.get(i).equals(behind.get(i))) {
        return before.get(i) + " / " + behind.get(i);
      }
    }
    return before.size() == behind.size() ? "nothing" : "the number of things to be seen";
  }

  private List<String> traces(Act act) {
    List<String> all = new ArrayList<>();
    lookAtPredictor(all, touched(act));
    lookAtBytes(all, touched(act));
    int models = touched(act).modelCount();
    for (int model = 0; model < models; model++) {
      lookAtCounters(all, act, model);
    }
    lookAhead(all, touched(act));
    codeAhead(all, touched(act));
    decodeAhead(all, touched(act));
    return all;
  }

  private static void see(List<String> all, String call, Check.Call answer) {
    all.add(call + " " + Check.answerOf(answer));
  }

  private static void lookAtPredictor(List<String> all, BitMixer x) {
    see(all, "modelCount", x::modelCount);
    see(all, "node", x::node);
    see(all, "observed", x::observed);
    see(all, "error", x::error);
    see(all, "meanError", x::meanError);
    see(all, "mixed", x::mixed);
    see(all, "leader", x::leader);
    for (int i = 0; i < 3; i++) {
      int back = i;
      see(all, "history " + back, () -> x.history(back));
    }
    for (int i = 0; i <= 6; i++) {
      int model = i;
      see(all, "prediction " + model, () -> x.prediction(model));
      see(all, "index " + model, () -> x.index(model));
      see(all, "collisions " + model, () -> x.collisions(model));
      for (int j = 0; j < 8; j++) {
        int phase = j;
        see(all, "weight " + model + " " + phase, () -> x.weight(model, phase));
      }
    }
    see(all, "digest", x::digest);
  }

  private static void lookAtBytes(List<String> all, BitMixer x) {
    see(all, "size", x::size);
    see(all, "codeSize", x::codeSize);
    see(all, "outputSize", x::outputSize);
    see(all, "ratio", x::ratio);
    for (int i = 0; i < 100; i++) {
      int place = i;
      see(all, "byteAt " + place, () -> x.byteAt(place));
      see(all, "code " + place, () -> x.code(place));
      see(all, "output " + place, () -> x.output(place));
    }
  }

  private void lookAtCounters(List<String> all, Act act, int model) {
    boolean isThere = true;
    for (int from = 0; isThere; from += PART) {
      BitMixer x = touched(act);
      for (int i = from; i < from + PART && isThere; i++) {
        int index = i;
        see(all, "counter " + model + " " + index, () -> x.counter(model, index));
        isThere = !all.get(all.size() - 1).contains("throws.");
      }
    }
  }

  /** What only later calls show: the rate, and which counters were looked at and when. */
  private static void lookAhead(List<String> all, BitMixer x) {
    String bits = "0110000101100010000000011111111100101101";
    for (int i = 0; i < bits.length(); i++) {
      boolean isOne = bits.charAt(i) == '1';
      see(all, "observe ahead " + i, () -> x.observe(isOne));
    }
    see(all, "digest ahead", x::digest);
  }

  private static void codeAhead(List<String> all, BitMixer x) {
    see(all, "encode ahead", x::encode);
    see(all, "digest ahead of it", x::digest);
  }

  private static void decodeAhead(List<String> all, BitMixer x) {
    see(all, "decode ahead", () -> x.decode(80));
    see(all, "digest ahead of it", x::digest);
  }
}
