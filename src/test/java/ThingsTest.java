/** Promises 6 to 9: make, give, thing, juggler. */
public final class ThingsTest {
  private static final Class<IndexOutOfBoundsException> INDEX = IndexOutOfBoundsException.class;
  private static final Class<IllegalArgumentException> ARGUMENT = IllegalArgumentException.class;
  private static final Class<IllegalStateException> STATE = IllegalStateException.class;

  static void dueThing(HammerEggs x, int thing, int... answers) {
    for (int what = 0; what < answers.length; what++) {
      Check.due("thing(" + thing + ", " + what + ")", x.thing(thing, what), answers[what]);
    }
  }

  static void dueJuggler(HammerEggs x, int juggler, int... answers) {
    for (int what = 0; what < answers.length; what++) {
      Check.due("juggler(" + juggler + ", " + what + ")", x.juggler(juggler, what), answers[what]);
    }
  }

  private static void promise6Make() {
    HammerEggs x = new HammerEggs();
    int[] wrongKinds = {-1, 3, Integer.MIN_VALUE, Integer.MAX_VALUE};
    for (int kind : wrongKinds) {
      Check.refused(x, "make(" + kind + ")", ARGUMENT, () -> x.make(kind));
    }
    for (int i = 0; i < 12; i++) {
      Check.due("make", x.make(i % 3), i);
      Check.due("count(2)", x.count(2), i + 1);
      dueThing(x, i, i % 3, 0, -1, -1, -1, 0, 0);
    }
    Check.refused(x, "a 13th make(0)", STATE, () -> x.make(0));
    Check.refused(x, "a 13th make(3): kind is named first", ARGUMENT, () -> x.make(3));
  }

  private static void promise7Give() {
    HammerEggs x = new HammerEggs();
    x.come(1);
    x.come(1);
    for (int i = 0; i < 4; i++) {
      x.make(i % 3);
    }
    Check.due("give(2, 1, 1)", x.give(2, 1, 1), 1);
    dueThing(x, 2, 2, 1, 1, 1, -1, 0, 0);
    dueJuggler(x, 1, 1, 0, -1, 2, 1, 0, 0);
    Check.due("give(0, 1, 0)", x.give(0, 1, 0), 2);
    dueThing(x, 0, 0, 1, 1, 0, -1, 0, 0);
    dueJuggler(x, 1, 1, 0, 0, 2, 1, 0, 0);
    Check.due("give(1, 0, 0)", x.give(1, 0, 0), 1);
    dueJuggler(x, 0, 1, 0, 1, -1, 1, 0, 0);
    Check.refused(x, "a full hand", STATE, () -> x.give(3, 1, 0));
    Check.refused(x, "the other full hand", STATE, () -> x.give(3, 1, 1));
    Check.refused(x, "from a hand", STATE, () -> x.give(0, 0, 1));
    Check.refused(x, "to its own hand", STATE, () -> x.give(0, 1, 0));
    int[][] wrong = {{-1, 0, 0}, {4, 0, 0}, {12, 0, 0}, {3, -1, 0}, {3, 2, 0}, {3, 4, 0},
        {3, 0, -1}, {3, 0, 2}, {0, 2, 0}, {0, 0, 2}, {Integer.MIN_VALUE, 0, 0},
        {3, Integer.MAX_VALUE, 0}, {3, 0, Integer.MAX_VALUE}};
    for (int[] a : wrong) {
      Check.refused(x, "give(" + a[0] + ", " + a[1] + ", " + a[2] + ")", INDEX,
          () -> x.give(a[0], a[1], a[2]));
    }
  }

  private static void promise7AirAndShards() {
    HammerEggs x = new HammerEggs();
    x.come(1);
    x.setPattern(0, 1, 4);
    x.make(2);
    x.give(0, 0, 0);
    x.go(1);
    Check.refused(x, "from the air", STATE, () -> x.give(0, 0, 0));
    x.go(4);
    dueThing(x, 0, 2, 3, -1, -1, -1, 1, 1);
    Check.refused(x, "a broken egg", STATE, () -> x.give(0, 0, 0));
    x.make(0);
    x.give(1, 0, 1);
    x.go(5);
    dueThing(x, 1, 0, 0, -1, -1, -1, 1, 1);
    Check.due("a fallen ball is given again", x.give(1, 0, 0), 1);
    dueThing(x, 1, 0, 1, 0, 0, -1, 1, 1);
  }

  private static void promise8Thing() {
    HammerEggs x = new HammerEggs();
    x.come(9);
    x.come(9);
    x.make(1);
    x.setPattern(0, 1, 5);
    x.pass(0, 0, 1);
    x.give(0, 0, 0);
    dueThing(x, 0, 1, 1, 0, 0, -1, 0, 0);
    x.go(1);
    dueThing(x, 0, 1, 2, 1, -1, 3, 1, 0);
    x.go(1);
    dueThing(x, 0, 1, 2, 1, -1, 2, 1, 0);
    x.go(2);
    dueThing(x, 0, 1, 2, 1, -1, 0, 1, 0);
    x.go(1);
    dueThing(x, 0, 1, 1, 1, 0, -1, 1, 0);
    int[][] wrong = {{-1, 0}, {1, 0}, {12, 0}, {0, -1}, {0, 7}, {Integer.MIN_VALUE, 0},
        {Integer.MAX_VALUE, 0}, {0, Integer.MIN_VALUE}, {0, Integer.MAX_VALUE}};
    for (int[] a : wrong) {
      Check.refused(x, "thing(" + a[0] + ", " + a[1] + ")", INDEX, () -> x.thing(a[0], a[1]));
    }
  }

  private static void promise9Juggler() {
    HammerEggs x = new HammerEggs();
    x.come(7);
    x.come(2);
    x.setPattern(0, 3, 555);
    x.pass(0, 0, 1);
    x.pass(0, 1, 1);
    x.make(1);
    x.make(1);
    x.give(0, 0, 0);
    x.give(1, 0, 1);
    dueJuggler(x, 0, 7, 0, 0, 1, 3, 0, 0);
    x.go(2);
    dueJuggler(x, 0, 7, 0, -1, -1, 3, 0, 0);
    dueJuggler(x, 1, 2, 0, -1, -1, 1, 2, 0);
    x.go(3);
    dueJuggler(x, 1, 2, 1, -1, -1, 1, 1, 0);
    x.go(1);
    dueJuggler(x, 0, 7, 0, -1, -1, 3, 0, 0);
    dueJuggler(x, 1, 2, 2, -1, -1, 1, 0, 0);
    x.setPattern(0, 1, 4);
    x.give(1, 0, 0);
    x.go(1);
    dueJuggler(x, 0, 7, 0, -1, -1, 1, 1, 0);
    x.go(3);
    dueJuggler(x, 0, 7, 0, -1, -1, 1, 1, 1);
    int[][] wrong = {{-1, 0}, {2, 0}, {4, 0}, {0, -1}, {0, 7}, {Integer.MIN_VALUE, 0},
        {Integer.MAX_VALUE, 0}, {0, Integer.MIN_VALUE}, {0, Integer.MAX_VALUE}};
    for (int[] a : wrong) {
      Check.refused(x, "juggler(" + a[0] + ", " + a[1] + ")", INDEX, () -> x.juggler(a[0], a[1]));
    }
  }

  public static void main(String[] args) {
    promise6Make();
    promise7Give();
    promise7AirAndShards();
    promise8Thing();
    promise9Juggler();
    Check.end();
  }
}
