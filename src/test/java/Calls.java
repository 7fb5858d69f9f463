/** Calls told by their names, so that the class and the model can be asked the same. */
final class Calls {
  private Calls() {}

  private static String answer(HammerEggs x, String call, int a, int b, int c) {
    try {
      switch (call) {
        case "come": return "" + x.come(a);
        case "setPattern": return "" + x.setPattern(a, b, c);
        case "pass": return "" + x.pass(a, b, c);
        case "written": return "" + x.written(a, b, c);
        case "make": return "" + x.make(a);
        case "give": return "" + x.give(a, b, c);
        case "thing": return "" + x.thing(a, b);
        case "juggler": return "" + x.juggler(a, b);
        case "lasts": return "" + x.lasts(a);
        case "asks": return "" + x.asks(a);
        case "shortest": return "" + x.shortest(a);
        case "go": return "" + x.go(a);
        case "count": return "" + x.count(a);
        case "falls": return "" + x.falls();
        case "foresee": return "" + x.foresee(a, b);
        case "advise": return "" + x.advise(a, b);
        case "mean": return "" + x.mean();
        default: return "" + x.digest();
      }
    } catch (RuntimeException e) {
      return e.getClass().getSimpleName();
    }
  }

  /** The arguments of a told call, "give 0 1 1" say; 0 for those that are not told. */
  private static int[] arguments(String told) {
    String[] words = told.split(" ");
    int[] a = new int[3];
    for (int i = 1; i < words.length; i++) {
      a[i - 1] = Integer.parseInt(words[i]);
    }
    return a;
  }

  /** The answer of a told call, or the name of the exception that it throws. */
  static String answer(HammerEggs x, String told) {
    int[] a = arguments(told);
    return answer(x, told.split(" ")[0], a[0], a[1], a[2]);
  }

  static String answer(Model model, String told) {
    int[] a = arguments(told);
    return model.answer(told.split(" ")[0], a[0], a[1], a[2]);
  }

  /** Each call of the script must be answered alike by both. */
  static void playBoth(HammerEggs x, Model model, String... script) {
    for (String told : script) {
      Check.due(told, answer(x, told), answer(model, told));
    }
  }
}
