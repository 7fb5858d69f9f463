/** Rings with which several tests begin, and what tests ask of a ring and its twin. */
final class Rings {
  static final int BALL = 0;
  static final int HAMMER = 1;
  static final int EGG = 2;

  private Rings() {}

  static HammerEggs of(int... skills) {
    HammerEggs x = new HammerEggs();
    for (int skill : skills) {
      x.come(skill);
    }
    return x;
  }

  /** A juggler alone, with a pattern, and one thing in a hand. */
  static HammerEggs solo(int skill, int length, int heights, int kind, int hand) {
    HammerEggs x = of(skill);
    x.setPattern(0, length, heights);
    x.make(kind);
    x.give(0, 0, hand);
    return x;
  }

  static void letGo(HammerEggs x, int beats) {
    for (int left = beats; left > 0; left -= 200) {
      x.go(left > 200 ? 200 : left);
    }
  }

  /** Four jugglers with patterns of eight throws, and twelve things, eight of them in hands. */
  static HammerEggs full() {
    HammerEggs x = new HammerEggs();
    for (int i = 0; i < 4; i++) {
      x.come(9 - 2 * i);
      x.setPattern(i, 8, 31415926 + 1111111 * i);
    }
    for (int i = 0; i < 4; i++) {
      x.pass(i, 7, (i + 1) % 4);
    }
    for (int i = 0; i < 12; i++) {
      x.make(i % 3);
    }
    for (int i = 0; i < 8; i++) {
      x.give(i, i / 2, i % 2);
    }
    return x;
  }

  /** Two balls among four jugglers, of which one first falls in the 276th beat. */
  static HammerEggs lateFall() {
    HammerEggs x = new HammerEggs();
    int[][] patterns = {{5, 50030}, {7, 9001700}, {8, 40000}, {6, 3045}};
    for (int i = 0; i < 4; i++) {
      x.come(9);
      x.setPattern(i, patterns[i][0], patterns[i][1]);
    }
    int[][] passes = {{0, 3, 1}, {0, 4, 2}, {1, 4, 3}, {1, 6, 3}, {2, 2, 0}, {3, 2, 0}};
    for (int[] p : passes) {
      x.pass(p[0], p[1], p[2]);
    }
    for (int i = 0; i < 2; i++) {
      x.make(0);
      x.give(i, i, 0);
    }
    return x;
  }

  static final String[] EMPTY = {};
  static final String[] JUGGLERS_ALONE = {"come 9", "come 1", "setPattern 1 8 12345678"};
  static final String[] THINGS_ALONE = {"make 0", "make 1", "make 2", "go 3"};

  // All that a thing can be: in hands, in the air, on the floor, broken.
  static final String[] MIXED = {
    "come 9", "come 1", "setPattern 0 2 79", "setPattern 1 3 400", "pass 0 1 1",
    "make 2", "make 1", "make 0", "make 1", "make 2", "make 0", "make 1",
    "give 0 1 0", "go 6", "give 1 0 0", "give 2 0 1", "go 2", "give 3 1 0", "give 4 0 1"};

  // Four jugglers and twelve things, all hands full, and four things in the air.
  static final String[] FULL = {
    "come 9", "come 7", "come 5", "come 1", "setPattern 0 8 98765432", "setPattern 1 5 50505",
    "setPattern 2 1 9", "setPattern 3 8 31313135", "pass 0 7 3", "pass 1 4 2", "pass 2 0 0",
    "make 0", "make 1", "make 2", "make 0", "make 1", "make 2",
    "make 0", "make 1", "make 2", "make 0", "make 1", "make 2",
    "give 0 0 0", "give 1 1 0", "give 2 2 0", "give 3 3 0", "go 1",
    "give 4 0 0", "give 5 0 1", "give 6 1 0", "give 7 1 1",
    "give 8 2 0", "give 9 2 1", "give 10 3 0", "give 11 3 1"};

  static HammerEggs played(String... script) {
    HammerEggs x = new HammerEggs();
    Calls.playBoth(x, new Model(), script);
    return x;
  }

  /** What the model answers to a call, behind the script. */
  static int modelled(String[] script, String call) {
    Model model = new Model();
    Calls.playBoth(new HammerEggs(), model, script);
    return Integer.parseInt(Calls.answer(model, call));
  }

  /** What is not told, the height of a throw say, shows itself when the beats go on. */
  static void dueAlikeForLong(String what, HammerEggs x, HammerEggs twin) {
    Check.due(what + ": digest", x.digest(), twin.digest());
    Check.due(what + ": falls", x.falls(), twin.falls());
    for (int beat = 1; beat <= 50; beat++) {
      Check.due(what + ": go " + beat, x.go(1), twin.go(1));
      Check.due(what + ": digest behind " + beat, x.digest(), twin.digest());
    }
  }
}
