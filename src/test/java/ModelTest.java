/** Long runs of calls, right and wrong ones, are answered as the model answers them. */
public final class ModelTest {
  private static final String[] CALLS = {"come", "setPattern", "pass", "written", "make", "give",
      "thing", "juggler", "lasts", "asks", "shortest", "go", "count", "falls", "foresee", "advise",
      "mean", "digest", "give", "go", "give", "setPattern", "pass", "make"};
  private static final int[] ODD = {-1, -2, 4, 8, 9, 12, 60, 61, 200, 201, 100000000,
      Integer.MAX_VALUE, Integer.MIN_VALUE};

  // Numbers that look drawn, the same in each run of the test.
  private static long seed = 1;

  private static int below(int bound) {
    seed = seed * 6364136223846793005L + 1442695040888963407L;
    return (int) ((seed >>> 33) % bound);
  }

  private static int mostly(int bound) {
    return below(25) == 0 ? ODD[below(ODD.length)] : below(bound);
  }

  private static String answer(HammerEggs x, String call, int a, int b, int c) {
    try {
      switch (call) {
        case "come": return "" + x.come(a);
        case "setPattern": return "" + x.setPattern(a, b, c);
        case "pass": return "" + x.pass(a, b, c);
        case "written": return "" + x.written(a, b, c);
        case "make": return "" + x.make(a);
        case "give": return "" + x.give(a, b, c);
        case "thing": return "" + x.thing(a, b);
        case "juggler": return "" + x.juggler(a, b);
        case "lasts": return "" + x.lasts(a);
        case "asks": return "" + x.asks(a);
        case "shortest": return "" + x.shortest(a);
        case "go": return "" + x.go(a);
        case "count": return "" + x.count(a);
        case "falls": return "" + x.falls();
        case "foresee": return "" + x.foresee(a, b);
        case "advise": return "" + x.advise(a, b);
        case "mean": return "" + x.mean();
        default: return "" + x.digest();
      }
    } catch (RuntimeException e) {
      return e.getClass().getSimpleName();
    }
  }

  private static int digits(int length) {
    int digits = 0;
    for (int i = 0; i < length && i < 9; i++) {
      digits = digits * 10 + (below(4) == 0 ? 0 : below(10));
    }
    return below(25) == 0 ? ODD[below(ODD.length)] : digits;
  }

  private static int[] arguments(String call) {
    switch (call) {
      case "come": return new int[] {1 + mostly(9), 0, 0};
      case "setPattern":
        int length = 1 + mostly(8);
        return new int[] {mostly(4), length, digits(length)};
      case "pass": return new int[] {mostly(4), mostly(5), mostly(4)};
      case "written": return new int[] {mostly(4), mostly(5), mostly(2)};
      case "make": return new int[] {mostly(3), 0, 0};
      case "give": return new int[] {mostly(12), mostly(4), mostly(2)};
      case "go": return new int[] {1 + mostly(below(4) == 0 ? 40 : 5), 0, 0};
      case "foresee": return new int[] {1 + mostly(below(4) == 0 ? 200 : 12), mostly(3), 0};
      case "advise": return new int[] {mostly(4), 1 + mostly(60), 0};
      case "count": return new int[] {mostly(9), 0, 0};
      case "thing": return new int[] {mostly(12), mostly(7), 0};
      default: return new int[] {mostly(4), mostly(7), 0};
    }
  }

  private static void run(int number, int calls) {
    HammerEggs x = new HammerEggs();
    Model model = new Model();
    for (int i = 0; i < calls; i++) {
      String call = i < 2 ? "come" : CALLS[below(CALLS.length)];
      int[] a = arguments(call);
      String told = "run " + number + ", call " + i + ": " + call + "(" + a[0] + ", " + a[1] + ", "
          + a[2] + ")";
      Check.due(told, answer(x, call, a[0], a[1], a[2]), model.answer(call, a[0], a[1], a[2]));
      Check.due(told + ", then digest", answer(x, "digest", 0, 0, 0),
          model.answer("digest", 0, 0, 0));
    }
  }

  public static void main(String[] args) {
    for (int number = 0; number < 200; number++) {
      run(number, 150);
    }
    for (int number = 200; number < 205; number++) {
      run(number, 512);
    }
    Check.end();
  }
}
