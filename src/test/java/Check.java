/** Counts the answers that are not the ones that are due, and says which they are. */
final class Check {
  interface Call {
    Object answer();
  }

  private int made = 0;
  private int wrong = 0;

  /** The answer as a text; of a call that throws, the exception's name behind "throws.". */
  static String answerOf(Call call) {
    try {
      return String.valueOf(call.answer());
    } catch (RuntimeException e) {
      return "throws." + e.getClass().getSimpleName();
    }
  }

  void due(String what, Object want, Call call) {
    same(what, String.valueOf(want), answerOf(call));
  }

  void same(String what, String want, String got) {
    made++;
    if (!want.equals(got)) {
      wrong++;
      System.out.println(what + " answered " + got + ", due is " + want);
    }
  }

  /** The call must throw this exception and leave everything as it was. */
  void refused(String what, BitMixer x, String exception, Call call) {
    String before = traces(x);
    due(what, "throws." + exception, call);
    same(what + ", the state behind it", before, traces(x));
  }

  private static String traces(BitMixer x) {
    StringBuilder all = new StringBuilder();
    all.append(x.digest()).append(' ').append(x.mixed());
    for (int model = 0; model < x.modelCount(); model++) {
      all.append(' ').append(x.index(model)).append(' ').append(x.prediction(model));
    }
    for (int back = 0; back < 3; back++) {
      all.append(' ').append(x.history(back));
    }
    return all.toString();
  }

  void end() {
    System.out.println(made + " answers looked at, " + wrong + " of them not as due");
    if (wrong != 0) {
      System.exit(1);
    }
  }
}
