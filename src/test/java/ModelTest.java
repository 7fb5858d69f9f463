/** Long runs of calls, right and wrong ones, are answered as the model answers them. */
public final class ModelTest {
  private static final String[] CALLS = {"come", "setPattern", "pass", "written", "make", "give",
      "thing", "juggler", "lasts", "asks", "shortest", "go", "count", "falls", "foresee", "advise",
      "mean", "digest", "give", "go", "give", "setPattern", "pass", "make"};
  private static final int[] ODD = {-1, -2, 4, 8, 9, 12, 60, 61, 200, 201, 100000000,
      Integer.MAX_VALUE, Integer.MIN_VALUE};

  // Numbers that look drawn, the same in each run of the test.
  private static long seed = 1;

  private static int below(int bound) {
    seed = seed * 6364136223846793005L + 1442695040888963407L;
    return (int) ((seed >>> 33) % bound);
  }

  private static int mostly(int bound) {
    return below(25) == 0 ? ODD[below(ODD.length)] : below(bound);
  }

  private static int digits(int length) {
    int digits = 0;
    for (int i = 0; i < length && i < 9; i++) {
      digits = digits * 10 + (below(4) == 0 ? 0 : below(10));
    }
    return below(25) == 0 ? ODD[below(ODD.length)] : digits;
  }

  private static int[] arguments(String call) {
    switch (call) {
      case "come": return new int[] {1 + mostly(9), 0, 0};
      case "setPattern":
        int length = 1 + mostly(8);
        return new int[] {mostly(4), length, digits(length)};
      case "pass": return new int[] {mostly(4), mostly(5), mostly(4)};
      case "written": return new int[] {mostly(4), mostly(5), mostly(2)};
      case "make": return new int[] {mostly(3), 0, 0};
      case "give": return new int[] {mostly(12), mostly(4), mostly(2)};
      case "go": return new int[] {1 + mostly(below(4) == 0 ? 40 : 5), 0, 0};
      case "foresee": return new int[] {1 + mostly(below(4) == 0 ? 200 : 12), mostly(3), 0};
      case "advise": return new int[] {mostly(4), 1 + mostly(60), 0};
      case "count": return new int[] {mostly(9), 0, 0};
      case "thing": return new int[] {mostly(12), mostly(7), 0};
      default: return new int[] {mostly(4), mostly(7), 0};
    }
  }

  private static void run(int number, int calls) {
    HammerEggs x = new HammerEggs();
    Model model = new Model();
    for (int i = 0; i < calls; i++) {
      String call = i < 2 ? "come" : CALLS[below(CALLS.length)];
      int[] a = arguments(call);
      String told = call + " " + a[0] + " " + a[1] + " " + a[2];
      String where = "run " + number + ", call " + i + ": " + told;
      Check.due(where, Calls.answer(x, told), Calls.answer(model, told));
      Check.due(where + ", then digest", Calls.answer(x, "digest"), Calls.answer(model, "digest"));
    }
  }

  public static void main(String[] args) {
    for (int number = 0; number < 200; number++) {
      run(number, 150);
    }
    // A digest follows each call: 512 calls in all, as many as the document promises.
    for (int number = 200; number < 210; number++) {
      run(number, 256);
    }
    Check.end();
  }
}
