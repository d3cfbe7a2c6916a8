import java.math.BigInteger;
import java.util.ArrayList;
import java.util.HashMap;
import java.util.List;
import java.util.Map;

/**
 * The document told a second time, in another shape than the class: bits are kept as a
 * text, everything is worked out anew from it when asked for, and the coder counts in
 * BigInteger. It is slow and knows nothing of BitMixer.
 */
final class PlainMixer {
  private static final BigInteger WORD = BigInteger.ONE.shiftLeft(32);
  private static final BigInteger TOP = BigInteger.ONE.shiftLeft(24);

  private static final class PlainModel {
    int order;
    int rate;
    int t;
    int collisions;
    Map<Long, Integer> values = new HashMap<>();
    Map<Long, String> looks = new HashMap<>();
    Map<Integer, Integer> weights = new HashMap<>();

    void begin() {
      collisions = 0;
      values.clear();
      looks.clear();
      weights.clear();
    }

    int value(long number) {
      return values.getOrDefault(number, 2048);
    }

    int weight(int phase) {
      return weights.getOrDefault(phase, 256);
    }
  }

  private final List<PlainModel> models = new ArrayList<>();
  private final List<Integer> text = new ArrayList<>();
  private final StringBuilder bits = new StringBuilder();
  private List<Integer> code = new ArrayList<>();
  private List<Integer> output = new ArrayList<>();
  private BigInteger error = BigInteger.ZERO;

  private static void argument(boolean fine) {
    if (!fine) throw new IllegalArgumentException();
  }

  private static void state(boolean fine) {
    if (!fine) throw new IllegalStateException();
  }

  private static void bounds(boolean fine) {
    if (!fine) throw new IndexOutOfBoundsException();
  }

  private static boolean within(long value, long least, long most) {
    return least <= value && value <= most;
  }

  int addModel(int order, int rate, int t) {
    argument(within(order, 0, 3) && within(rate, 2, 7) && within(t, 4, 9));
    state(models.size() < 6);
    PlainModel model = new PlainModel();
    model.order = order;
    model.rate = rate;
    model.t = t;
    models.add(model);
    reset();
    return models.indexOf(model);
  }

  int removeModel() {
    state(!models.isEmpty());
    models.remove(models.size() - 1);
    reset();
    return models.size();
  }

  int setRate(int model, int rate) {
    int before = model(model).rate;
    argument(within(rate, 2, 7));
    model(model).rate = rate;
    reset();
    return before;
  }

  int modelCount() {
    return models.size();
  }

  int feed(long bytes, int many) {
    argument(within(many, 1, 8));
    state(text.size() + many <= 80);
    String digits = String.format("%016x", bytes).substring(16 - 2 * many);
    for (int i = 0; i < many; i++) {
      text.add(Integer.parseInt(digits.substring(2 * i, 2 * i + 2), 16));
    }
    return text.size();
  }

  int fill(int value, int many) {
    argument(within(value, 0, 255) && within(many, 1, 80));
    state(text.size() + many <= 80);
    for (int i = 0; i < many; i++) text.add(value);
    return text.size();
  }

  int cut(int many) {
    return shorten(text, many);
  }

  int size() {
    return text.size();
  }

  int byteAt(int place) {
    return entry(text, place);
  }

  int reset() {
    int before = bits.length();
    bits.setLength(0);
    error = BigInteger.ZERO;
    for (PlainModel model : models) model.begin();
    return before;
  }

  int observe(boolean isOne) {
    int phase = phase();
    int node = node();
    int mixed = mixed();
    int quality = quality(mixed, isOne);
    error = error.add(BigInteger.valueOf(4096 - quality));
    for (PlainModel model : models) {
      int own = quality(model.value(number(model)), isOne);
      int w = model.weight(phase);
      if (own > quality) model.weights.put(phase, Math.min(60000, w + w / 16 + 1));
      if (own < quality) model.weights.put(phase, Math.max(1, w - w / 16 - 1));
    }
    for (PlainModel model : models) {
      long number = number(model);
      int p = model.value(number);
      int divisor = (int) Math.pow(2, model.rate);
      model.values.put(number, isOne ? p + (4096 - p) / divisor : p - p / divisor);
      String look = context(model) + " at " + node;
      String before = model.looks.put(number, look);
      if (before != null && !before.equals(look)) model.collisions++;
    }
    bits.append(isOne ? '1' : '0');
    return quality;
  }

  private static int quality(int p, boolean isOne) {
    return isOne ? p : 4096 - p;
  }

  int mixed() {
    BigInteger products = BigInteger.ZERO;
    BigInteger weights = BigInteger.ZERO;
    for (PlainModel model : models) {
      BigInteger w = BigInteger.valueOf(model.weight(phase()));
      products = products.add(w.multiply(BigInteger.valueOf(model.value(number(model)))));
      weights = weights.add(w);
    }
    if (models.isEmpty()) return 2048;
    return Math.min(4095, Math.max(1, products.divide(weights).intValueExact()));
  }

  int prediction(int model) {
    return model(model).value(number(model(model)));
  }

  int index(int model) {
    return (int) number(model(model));
  }

  int counter(int model, int index) {
    bounds(within(index, 0, (1L << model(model).t) - 1));
    return model(model).value(index);
  }

  int weight(int model, int phase) {
    bounds(within(phase, 0, 7));
    return model(model).weight(phase);
  }

  int leader() {
    int greatest = models.stream().mapToInt(model -> model.weight(phase())).max().orElse(0);
    for (int i = 0; i < models.size(); i++) {
      if (models.get(i).weight(phase()) == greatest) return i;
    }
    return -1;
  }

  int collisions(int model) {
    return model(model).collisions;
  }

  int history(int back) {
    bounds(within(back, 0, 2));
    int end = bits.length() - phase() - 8 * back;
    return end < 8 ? 0 : Integer.parseInt(bits.substring(end - 8, end), 2);
  }

  int node() {
    return Integer.parseInt("1" + bits.substring(bits.length() - phase()), 2);
  }

  int observed() {
    return bits.length();
  }

  long error() {
    return error.longValueExact();
  }

  double meanError() {
    return bits.length() == 0 ? 0 : error.doubleValue() / (4096L * bits.length());
  }

  int encode() {
    reset();
    code = new ArrayList<>();
    BigInteger low = BigInteger.ZERO;
    BigInteger high = WORD.subtract(BigInteger.ONE);
    for (int value : text) {
      for (char sign : Integer.toBinaryString(256 + value).substring(1).toCharArray()) {
        BigInteger middle = middle(low, high);
        if (sign == '1') high = middle;
        else low = middle.add(BigInteger.ONE);
        while (low.divide(TOP).equals(high.divide(TOP))) {
          code.add(low.divide(TOP).intValueExact());
          low = low.multiply(BigInteger.valueOf(256)).mod(WORD);
          high = high.multiply(BigInteger.valueOf(256)).add(BigInteger.valueOf(255)).mod(WORD);
        }
        observe(sign == '1');
      }
    }
    for (int shift = 24; shift >= 0; shift -= 8) {
      code.add(low.shiftRight(shift).mod(BigInteger.valueOf(256)).intValueExact());
    }
    return code.size();
  }

  private BigInteger middle(BigInteger low, BigInteger high) {
    BigInteger step = high.subtract(low).divide(BigInteger.valueOf(4096));
    return low.add(step.multiply(BigInteger.valueOf(mixed())));
  }

  int codeSize() {
    return code.size();
  }

  int code(int position) {
    return entry(code, position);
  }

  int setCode(int position, int value) {
    entry(code, position);
    argument(within(value, 0, 255));
    return code.set(position, value);
  }

  int cutCode(int many) {
    return shorten(code, many);
  }

  int decode(int many) {
    argument(within(many, 0, 80));
    reset();
    output = new ArrayList<>();
    BigInteger low = BigInteger.ZERO;
    BigInteger high = WORD.subtract(BigInteger.ONE);
    BigInteger x = BigInteger.ZERO;
    int next = 0;
    for (; next < 4; next++) x = x.multiply(BigInteger.valueOf(256)).add(codeOrZero(next));
    while (output.size() < many) {
      StringBuilder whole = new StringBuilder();
      while (whole.length() < 8) {
        BigInteger middle = middle(low, high);
        boolean isOne = x.compareTo(middle) <= 0;
        if (isOne) high = middle;
        else low = middle.add(BigInteger.ONE);
        while (low.divide(TOP).equals(high.divide(TOP))) {
          low = low.multiply(BigInteger.valueOf(256)).mod(WORD);
          high = high.multiply(BigInteger.valueOf(256)).add(BigInteger.valueOf(255)).mod(WORD);
          x = x.multiply(BigInteger.valueOf(256)).mod(WORD).add(codeOrZero(next++));
        }
        observe(isOne);
        whole.append(isOne ? '1' : '0');
      }
      output.add(Integer.parseInt(whole.toString(), 2));
    }
    return differences();
  }

  private BigInteger codeOrZero(int position) {
    return BigInteger.valueOf(position < code.size() ? code.get(position) : 0);
  }

  private int differences() {
    int shared = Math.min(text.size(), output.size());
    int found = Math.abs(text.size() - output.size());
    for (int i = 0; i < shared; i++) {
      if (!text.get(i).equals(output.get(i))) found++;
    }
    return found;
  }

  int outputSize() {
    return output.size();
  }

  int output(int place) {
    return entry(output, place);
  }

  double ratio() {
    return text.isEmpty() ? 0 : (double) code.size() / text.size();
  }

  long digest() {
    List<Long> numbers = new ArrayList<>();
    numbers.add((long) models.size());
    for (PlainModel model : models) {
      numbers.add((long) model.order);
      numbers.add((long) model.rate);
      numbers.add((long) model.t);
      for (int phase = 0; phase < 8; phase++) numbers.add((long) model.weight(phase));
      numbers.add((long) model.collisions);
    }
    addAll(numbers, text);
    numbers.add((long) node());
    numbers.add((long) bits.length());
    numbers.add(error());
    addAll(numbers, code);
    addAll(numbers, output);
    BigInteger d = BigInteger.valueOf(103);
    for (long x : numbers) d = d.multiply(BigInteger.valueOf(31)).add(BigInteger.valueOf(x));
    return d.longValue();
  }

  private static void addAll(List<Long> numbers, List<Integer> bytes) {
    numbers.add((long) bytes.size());
    for (int value : bytes) numbers.add((long) value);
  }

  private PlainModel model(int model) {
    bounds(within(model, 0, models.size() - 1));
    return models.get(model);
  }

  private static int entry(List<Integer> list, int place) {
    bounds(within(place, 0, list.size() - 1));
    return list.get(place);
  }

  private static int shorten(List<Integer> list, int many) {
    argument(within(many, 0, list.size()));
    list.subList(list.size() - many, list.size()).clear();
    return list.size();
  }

  private int phase() {
    return bits.length() % 8;
  }

  private long context(PlainModel model) {
    long c = 0;
    for (int back = 0; back < model.order; back++) c = 257 * c + 1 + history(back);
    return c;
  }

  private long number(PlainModel model) {
    return (73 * context(model) + node()) % (1L << model.t);
  }
}
