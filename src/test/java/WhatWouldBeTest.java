/** Promises 15 to 19: falls, foresee, advise, mean, digest. */
public final class WhatWouldBeTest {
  private static final Class<IndexOutOfBoundsException> INDEX = IndexOutOfBoundsException.class;
  private static final Class<IllegalArgumentException> ARGUMENT = IllegalArgumentException.class;

  /** One juggler with a pattern; things of these kinds in the hands 0 and 1, then on the floor. */
  private static HammerEggs solo(int skill, int length, int heights, int... kinds) {
    HammerEggs x = new HammerEggs();
    x.come(skill);
    x.setPattern(0, length, heights);
    for (int i = 0; i < kinds.length; i++) {
      x.make(kinds[i]);
      if (i < 2) {
        x.give(i, 0, i);
      }
    }
    return x;
  }

  /** Two jugglers whose four things are thrown to and fro, and fall now and then. */
  private static HammerEggs duo(int heights) {
    HammerEggs x = new HammerEggs();
    x.come(3);
    x.come(6);
    x.setPattern(0, 4, heights);
    x.setPattern(1, 3, 504);
    x.pass(0, 1, 1);
    x.pass(1, 2, 0);
    for (int i = 0; i < 4; i++) {
      x.make((heights + i) % 3);
      x.give(i, i / 2, i % 2);
    }
    return x;
  }

  private static void promise15Falls() {
    Check.due("a ball of 4, too high", solo(1, 1, 4, 0).falls(), 5);
    Check.due("an egg of 9", solo(1, 1, 9, 2).falls(), 11);
    Check.due("a hammer of 9", solo(1, 1, 9, 1).falls(), 9);
    Check.due("a ball of 3", solo(1, 1, 3, 0).falls(), -1);
    Check.due("nothing thrown", solo(1, 1, 0, 0, 1, 2).falls(), -1);
    HammerEggs x = solo(1, 1, 4, 0);
    x.go(3);
    Check.due("three beats on", x.falls(), 2);
    x.go(1);
    Check.due("in the next beat", x.falls(), 1);
    x.go(1);
    Check.due("it has fallen", x.falls(), -1);
  }

  private static void promise15AtMost200() {
    HammerEggs x = Rings.lateFall();
    Check.due("276 beats ahead", x.falls(), -1);
    x.go(75);
    Check.due("201 beats ahead", x.falls(), -1);
    x.go(1);
    long before = x.digest();
    Check.due("200 beats ahead", x.falls(), 200);
    Check.due("falls() changes nothing", x.digest(), before);
    Check.due("foresee(199, 1)", x.foresee(199, 1), 0);
    Check.due("foresee(200, 1)", x.foresee(200, 1), 1);
    x.go(1);
    Check.due("199 beats ahead", x.falls(), 199);
    Check.due("go(198)", x.go(198), 0);
    Check.due("go(1)", x.go(1), 1);
  }

  private static void promise15AsGoDoes() {
    for (int heights = 0; heights <= 9999; heights += 37) {
      HammerEggs x = duo(heights);
      int answered = x.falls();
      int due = -1;
      for (int beat = 1; beat <= 200 && due == -1; beat++) {
        due = x.go(1) > 0 ? beat : -1;
      }
      Check.due("falls() with " + heights, answered, due);
    }
  }

  private static int gone(HammerEggs x, int beats, int what) {
    int fallen = x.go(beats);
    switch (what) {
      case 0:
        return x.count(4);
      case 1:
        return fallen;
      default:
        return x.juggler(0, 1) + x.juggler(1, 1);
    }
  }

  private static void promise16Foresee() {
    HammerEggs x = solo(1, 1, 4, 1, 1);
    Check.due("one flies behind a beat", x.foresee(1, 0), 1);
    Check.due("two fly behind two", x.foresee(2, 0), 2);
    Check.due("none has fallen", x.foresee(3, 1), 0);
    Check.due("one has fallen", x.foresee(4, 1), 1);
    Check.due("one bruise", x.foresee(4, 2), 1);
    Check.due("one still flies", x.foresee(4, 0), 1);
    Check.due("both have fallen", x.foresee(200, 1), 2);
    x.go(4);
    Check.due("only what falls in them", x.foresee(200, 1), 1);
    Check.due("all bruises then", x.foresee(200, 2), 2);
  }

  private static void promise16AsGoDoes() {
    int[] beats = {1, 2, 9, 60, 200};
    for (int heights = 0; heights <= 9999; heights += 101) {
      for (int n : beats) {
        for (int what = 0; what <= 2; what++) {
          HammerEggs x = duo(heights);
          x.go(7);
          long before = x.digest();
          int answered = x.foresee(n, what);
          Check.due("foresee changes nothing", x.digest(), before);
          Check.due("foresee(" + n + ", " + what + ")", answered, gone(x, n, what));
        }
      }
    }
  }

  private static void promise16Refusals() {
    HammerEggs x = duo(5241);
    int[] wrongBeats = {0, -1, 201, Integer.MIN_VALUE, Integer.MAX_VALUE};
    for (int beats : wrongBeats) {
      Check.refused(x, "foresee(" + beats + ", 0)", ARGUMENT, () -> x.foresee(beats, 0));
      Check.refused(x, "foresee(" + beats + ", 3)", ARGUMENT, () -> x.foresee(beats, 3));
    }
    int[] wrongWhats = {-1, 3, Integer.MIN_VALUE, Integer.MAX_VALUE};
    for (int what : wrongWhats) {
      Check.refused(x, "foresee(1, " + what + ")", INDEX, () -> x.foresee(1, what));
      Check.refused(x, "foresee(200, " + what + ")", INDEX, () -> x.foresee(200, what));
    }
  }

  private static void promise17Advise() {
    Check.due("nothing falls by then", solo(1, 1, 4, 0).advise(0, 4), -1);
    Check.due("rather hold it", solo(1, 1, 4, 0).advise(0, 5), 0);
    Check.due("the place 1, too late", solo(1, 2, 4, 0, 0).advise(0, 5), -1);
    Check.due("the place 1", solo(1, 2, 4, 0, 0).advise(0, 6), 10);
    HammerEggs flying = solo(1, 1, 4, 0);
    flying.go(1);
    Check.due("it falls at any rate", flying.advise(0, 60), -1);
    HammerEggs x = new HammerEggs();
    x.come(9);
    x.come(9);
    x.setPattern(1, 1, 2);
    x.pass(1, 0, 0);
    for (int i = 0; i < 2; i++) {
      x.make(0);
      x.give(i, i, 0);
    }
    Check.due("the hand is made free by a 3", x.advise(0, 3), 3);
    Check.due("the other one holds back", x.advise(1, 3), 0);
    Check.due("too soon to fall", x.advise(0, 2), -1);
  }

  // A hammer must leave the hand for a ball that comes in the beat 2; all but a 9 falls by then.
  private static void promise17HighestHeight() {
    HammerEggs x = new HammerEggs();
    x.come(1);
    x.come(9);
    x.setPattern(1, 1, 2);
    x.pass(1, 0, 0);
    x.make(1);
    x.make(0);
    x.give(0, 0, 0);
    x.give(1, 1, 0);
    Check.due("a 9 falls later", x.advise(0, 8), 9);
    Check.due("no more than 9", x.advise(0, 9), -1);
  }

  /** How many fall if the throw at a place of a juggler gets a height, behind 5 beats. */
  private static int fallenWith(int heights, int juggler, int place, int height, int beats) {
    HammerEggs x = duo(heights);
    x.go(5);
    int length = x.juggler(juggler, 4);
    int digits = 0;
    int[] receivers = new int[length];
    for (int i = 0; i < length; i++) {
      digits = digits * 10 + (i == place ? height : x.written(juggler, i, 0));
      receivers[i] = x.written(juggler, i, 1);
    }
    x.setPattern(juggler, length, digits);
    for (int i = 0; i < length; i++) {
      x.pass(juggler, i, receivers[i]);
    }
    return x.go(beats);
  }

  private static int dueAdvice(HammerEggs x, int heights, int juggler, int beats) {
    int fewest = x.foresee(beats, 1);
    int advice = -1;
    for (int place = 0; place < x.juggler(juggler, 4); place++) {
      for (int height = 0; height <= 9; height++) {
        int fallen = fallenWith(heights, juggler, place, height, beats);
        if (fallen < fewest) {
          fewest = fallen;
          advice = 10 * place + height;
        }
      }
    }
    return advice;
  }

  private static void promise17AsTrialsTell() {
    int[] beats = {1, 8, 25, 60};
    for (int heights = 0; heights <= 9999; heights += 211) {
      HammerEggs x = duo(heights);
      x.go(5);
      for (int i = 0; i < 8; i++) {
        int juggler = i / 4;
        int n = beats[i % 4];
        long before = x.digest();
        Check.due("advise(" + juggler + ", " + n + ") with " + heights,
            x.advise(juggler, n), dueAdvice(x, heights, juggler, n));
        Check.due("advise changes nothing", x.digest(), before);
      }
    }
  }

  private static void promise17Refusals() {
    HammerEggs x = duo(5241);
    int[] wrongBeats = {0, -1, 61, 200, Integer.MIN_VALUE, Integer.MAX_VALUE};
    for (int beats : wrongBeats) {
      Check.refused(x, "advise(0, " + beats + ")", ARGUMENT, () -> x.advise(0, beats));
      Check.refused(x, "advise(2, " + beats + ")", INDEX, () -> x.advise(2, beats));
    }
    int[] wrongJugglers = {-1, 2, 4, Integer.MIN_VALUE, Integer.MAX_VALUE};
    for (int juggler : wrongJugglers) {
      Check.refused(x, "advise(" + juggler + ", 1)", INDEX, () -> x.advise(juggler, 1));
    }
  }

  private static void promise18Mean() {
    HammerEggs x = solo(9, 1, 3, 0, 0);
    Check.due("no beat went by", x.mean(), 0.0);
    x.go(1);
    Check.due("one in one", x.mean(), 1.0);
    x.go(2);
    Check.due("two in three", x.mean(), 2.0 / 3.0);
    x.go(4);
    Check.due("five in seven", x.mean(), 5.0 / 7.0);
    HammerEggs idle = solo(9, 1, 0, 0);
    idle.go(9);
    Check.due("none in nine", idle.mean(), 0.0);
    HammerEggs two = duo(5555);
    two.go(2);
    Check.due("three in two", two.mean(), 1.5);
  }

  private static long digestOf(HammerEggs x) {
    long d = 953;
    for (int what = 0; what <= 8; what++) {
      d = d * 31 + x.count(what);
    }
    for (int juggler = 0; juggler < x.count(1); juggler++) {
      for (int what = 0; what <= 6; what++) {
        d = d * 31 + x.juggler(juggler, what);
      }
      for (int place = 0; place < x.juggler(juggler, 4); place++) {
        d = d * 31 + x.written(juggler, place, 0);
        d = d * 31 + x.written(juggler, place, 1);
      }
    }
    for (int thing = 0; thing < x.count(2); thing++) {
      for (int what = 0; what <= 6; what++) {
        d = d * 31 + x.thing(thing, what);
      }
    }
    return d;
  }

  private static void promise19Digest() {
    // 953 * 31^9, as a 64-bit integer.
    Check.due("digest of a new ring", new HammerEggs().digest(), 25196959919119463L);
    HammerEggs x = new HammerEggs();
    x.come(5);
    Check.due("digest with a juggler", x.digest(), digestOf(x));
    x.make(2);
    Check.due("digest with a thing", x.digest(), digestOf(x));
    for (int heights = 0; heights <= 9999; heights += 101) {
      for (int i = 0; i < 8; i++) {
        HammerEggs two = duo(heights);
        two.go(1 + 5 * i);
        Check.due("digest with " + heights, two.digest(), digestOf(two));
      }
    }
  }

  private static void allOfAFullRing() {
    for (int beats = 1; beats <= 60; beats++) {
      HammerEggs x = Rings.full();
      HammerEggs twin = Rings.full();
      int foreseen = x.foresee(beats, 1);
      int flying = x.foresee(beats, 0);
      int bruises = x.foresee(beats, 2);
      int first = x.falls();
      Check.holds("an advice of the document's", x.advise(beats % 4, beats) <= 79);
      Check.due("nothing is changed", x.digest(), twin.digest());
      Check.due("the full ring foreseen", foreseen, x.go(beats));
      Check.due("falls() of a full ring", first <= beats ? 1 : 0, foreseen > 0 ? 1 : 0);
      Check.due("flying", flying, x.count(4));
      int sum = 0;
      for (int i = 0; i < 4; i++) {
        sum += x.juggler(i, 1);
      }
      Check.due("bruises", bruises, sum);
      Check.due("digest of a full ring", x.digest(), digestOf(x));
    }
  }

  public static void main(String[] args) {
    promise15Falls();
    promise15AtMost200();
    promise15AsGoDoes();
    promise16Foresee();
    promise16AsGoDoes();
    promise16Refusals();
    promise17Advise();
    promise17HighestHeight();
    promise17AsTrialsTell();
    promise17Refusals();
    promise18Mean();
    promise19Digest();
    allOfAFullRing();
    Check.end();
  }
}
