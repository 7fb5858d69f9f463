/** Promises 1 to 5: a new object, come, setPattern, pass, written. */
public final class JugglersAndPatternsTest {
  private static final Class<IndexOutOfBoundsException> INDEX = IndexOutOfBoundsException.class;
  private static final Class<IllegalArgumentException> ARGUMENT = IllegalArgumentException.class;
  private static final Class<IllegalStateException> STATE = IllegalStateException.class;

  private static void promise1NewObject() {
    HammerEggs x = new HammerEggs();
    for (int what = 0; what <= 8; what++) {
      Check.due("new: count(" + what + ")", x.count(what), 0);
    }
    Check.due("new: falls()", x.falls(), -1);
    Check.due("new: mean()", x.mean(), 0.0);
    Check.refused(x, "new: juggler(0, 0)", INDEX, () -> x.juggler(0, 0));
    Check.refused(x, "new: thing(0, 0)", INDEX, () -> x.thing(0, 0));
    HammerEggs other = new HammerEggs();
    other.come(4);
    other.go(3);
    Check.due("another object's jugglers", x.count(1), 0);
    Check.due("another object's beat", x.count(0), 0);
  }

  private static void promise2Come() {
    HammerEggs x = new HammerEggs();
    int[] wrongSkills = {0, -1, 10, Integer.MIN_VALUE, Integer.MAX_VALUE};
    for (int skill : wrongSkills) {
      Check.refused(x, "come(" + skill + ")", ARGUMENT, () -> x.come(skill));
    }
    int[] skills = {1, 9, 5, 1};
    for (int i = 0; i < 4; i++) {
      Check.due("come", x.come(skills[i]), i);
      Check.due("count(1)", x.count(1), i + 1);
      Check.due("skill", x.juggler(i, 0), skills[i]);
      Check.due("bruises at first", x.juggler(i, 1), 0);
      Check.due("hand 0 at first", x.juggler(i, 2), -1);
      Check.due("hand 1 at first", x.juggler(i, 3), -1);
      Check.due("throws at first", x.juggler(i, 4), 1);
      Check.due("caught at first", x.juggler(i, 6), 0);
      Check.due("height at first", x.written(i, 0, 0), 0);
      Check.due("receiver at first", x.written(i, 0, 1), i);
    }
    Check.refused(x, "a fifth come(5)", STATE, () -> x.come(5));
    Check.refused(x, "a fifth come(0): skill is named first", ARGUMENT, () -> x.come(0));
    Check.refused(x, "a fifth come(10): skill is named first", ARGUMENT, () -> x.come(10));
  }

  private static void dueHeights(HammerEggs x, int juggler, int... heights) {
    Check.due("throws", x.juggler(juggler, 4), heights.length);
    for (int place = 0; place < heights.length; place++) {
      Check.due("height at " + place, x.written(juggler, place, 0), heights[place]);
      Check.due("receiver at " + place, x.written(juggler, place, 1), juggler);
    }
    Check.refused(x, "behind the last", INDEX, () -> x.written(juggler, heights.length, 0));
  }

  private static void promise3SetPattern() {
    HammerEggs x = new HammerEggs();
    x.come(5);
    x.come(5);
    Check.due("setPattern(1, 8, 97531000)", x.setPattern(1, 8, 97531000), 1);
    dueHeights(x, 1, 9, 7, 5, 3, 1, 0, 0, 0);
    dueHeights(x, 0, 0);
    Check.due("setPattern(1, 4, 31)", x.setPattern(1, 4, 31), 8);
    dueHeights(x, 1, 0, 0, 3, 1);
    Check.due("setPattern(1, 1, 9)", x.setPattern(1, 1, 9), 4);
    dueHeights(x, 1, 9);
    Check.due("setPattern(1, 8, 99999999)", x.setPattern(1, 8, 99999999), 1);
    dueHeights(x, 1, 9, 9, 9, 9, 9, 9, 9, 9);
    Check.due("setPattern(1, 3, 0)", x.setPattern(1, 3, 0), 8);
    dueHeights(x, 1, 0, 0, 0);
    x.pass(1, 2, 0);
    Check.due("setPattern(1, 3, 441)", x.setPattern(1, 3, 441), 3);
    dueHeights(x, 1, 4, 4, 1);
  }

  private static void promise3Refusals() {
    HammerEggs x = new HammerEggs();
    Check.refused(x, "setPattern without jugglers", INDEX, () -> x.setPattern(0, 1, 1));
    x.come(5);
    Check.refused(x, "setPattern(-1, 1, 1)", INDEX, () -> x.setPattern(-1, 1, 1));
    Check.refused(x, "setPattern(1, 1, 1)", INDEX, () -> x.setPattern(1, 1, 1));
    Check.refused(x, "setPattern(4, 1, 1)", INDEX, () -> x.setPattern(4, 1, 1));
    Check.refused(x, "setPattern(1, 0, -1): juggler first", INDEX, () -> x.setPattern(1, 0, -1));
    int[] wrongLengths = {0, 9, -1, 10, Integer.MIN_VALUE, Integer.MAX_VALUE};
    for (int length : wrongLengths) {
      Check.refused(x, "length " + length, ARGUMENT, () -> x.setPattern(0, length, 0));
    }
    int tens = 1;
    for (int length = 1; length <= 8; length++) {
      tens *= 10;
      int n = length;
      int tooLong = tens;
      Check.refused(x, "a digit more than " + n, ARGUMENT, () -> x.setPattern(0, n, tooLong));
      Check.refused(x, "heights -1", ARGUMENT, () -> x.setPattern(0, n, -1));
      Check.refused(x, "least", ARGUMENT, () -> x.setPattern(0, n, Integer.MIN_VALUE));
      Check.refused(x, "greatest", ARGUMENT, () -> x.setPattern(0, n, Integer.MAX_VALUE));
      x.setPattern(0, length, tens - 1);
      Check.due("throws", x.juggler(0, 4), length);
    }
  }

  private static void promise4Pass() {
    HammerEggs x = new HammerEggs();
    x.come(5);
    x.come(6);
    x.come(7);
    x.setPattern(1, 3, 531);
    Check.due("pass(1, 0, 2)", x.pass(1, 0, 2), 1);
    Check.due("pass(1, 0, 0)", x.pass(1, 0, 0), 2);
    Check.due("pass(1, 2, 1)", x.pass(1, 2, 1), 1);
    Check.due("pass(1, 2, 2)", x.pass(1, 2, 2), 1);
    Check.due("receiver at 0", x.written(1, 0, 1), 0);
    Check.due("receiver at 1", x.written(1, 1, 1), 1);
    Check.due("receiver at 2", x.written(1, 2, 1), 2);
    Check.due("height at 0", x.written(1, 0, 0), 5);
    Check.due("another one's receiver", x.written(0, 0, 1), 0);
    int[][] wrong = {{-1, 0, 0}, {3, 0, 0}, {4, 0, 0}, {1, -1, 0}, {1, 3, 0}, {1, 8, 0},
        {0, 1, 0}, {1, 0, -1}, {1, 0, 3}, {1, 0, 4}, {1, Integer.MIN_VALUE, 0},
        {Integer.MIN_VALUE, 0, 0}, {Integer.MAX_VALUE, 0, 0}, {1, 0, Integer.MAX_VALUE}};
    for (int[] a : wrong) {
      Check.refused(x, "pass(" + a[0] + ", " + a[1] + ", " + a[2] + ")", INDEX,
          () -> x.pass(a[0], a[1], a[2]));
    }
  }

  private static void promise5Written() {
    HammerEggs x = new HammerEggs();
    x.come(5);
    x.come(5);
    x.setPattern(0, 2, 83);
    x.pass(0, 1, 1);
    Check.due("written(0, 0, 0)", x.written(0, 0, 0), 8);
    Check.due("written(0, 1, 0)", x.written(0, 1, 0), 3);
    Check.due("written(0, 0, 1)", x.written(0, 0, 1), 0);
    Check.due("written(0, 1, 1)", x.written(0, 1, 1), 1);
    int[][] wrong = {{-1, 0, 0}, {2, 0, 0}, {0, -1, 0}, {0, 2, 0}, {0, 7, 0}, {0, 8, 0},
        {1, 1, 0}, {0, 0, -1}, {0, 0, 2}, {0, 0, Integer.MAX_VALUE}};
    for (int[] a : wrong) {
      Check.refused(x, "written(" + a[0] + ", " + a[1] + ", " + a[2] + ")", INDEX,
          () -> x.written(a[0], a[1], a[2]));
    }
  }

  public static void main(String[] args) {
    promise1NewObject();
    promise2Come();
    promise3SetPattern();
    promise3Refusals();
    promise4Pass();
    promise5Written();
    Check.end();
  }
}
