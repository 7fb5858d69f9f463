/** Counts the answers that are not as due, and ends a test with exit code 1 if there is one. */
final class Check {
  private static int wrong = 0;

  interface Call {
    void run();
  }

  private Check() {}

  static void due(String call, long got, long want) {
    if (got != want) {
      tell(call + " answered " + got + ", due is " + want);
    }
  }

  static void due(String call, double got, double want) {
    if (got != want) {
      tell(call + " answered " + got + ", due is " + want);
    }
  }

  static void due(String call, String got, String want) {
    if (!got.equals(want)) {
      tell(call + " answered " + got + ", due is " + want);
    }
  }

  static void holds(String what, boolean so) {
    if (!so) {
      tell("not so: " + what);
    }
  }

  /** The call must throw exactly this exception, and change nothing that the digest of x tells. */
  static void refused(
      HammerEggs x, String call, Class<? extends RuntimeException> want, Call body) {
    long before = x.digest();
    String got = "nothing";
    try {
      body.run();
    } catch (RuntimeException e) {
      got = e.getClass().getName();
    }
    due(call + " throws", got, want.getName());
    due(call + ", then digest()", x.digest(), before);
  }

  static void end() {
    if (wrong != 0) {
      System.out.println(wrong + " answers are not as due");
      System.exit(1);
    }
    System.out.println("all answers are as due");
  }

  private static void tell(String text) {
    wrong++;
    if (wrong <= 40) {
      System.out.println(text);
    }
  }
}
