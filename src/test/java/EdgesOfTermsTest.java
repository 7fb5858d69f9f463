/**
 * What it is and Terms: each sentence that names a boundary case has a test of its own, which
 * bears the sentence.
 */
public final class EdgesOfTermsTest {
  private static final Class<IndexOutOfBoundsException> INDEX = IndexOutOfBoundsException.class;
  private static final Class<IllegalArgumentException> ARGUMENT = IllegalArgumentException.class;
  private static final Class<IllegalStateException> STATE = IllegalStateException.class;

  // "An object is used for at most 512 calls after it has been made": the 512th is promised.
  private static void the512thCall() {
    int[] due = {101000, 1, 2, 0, 2, 0, 0, 0, 67334};
    for (int what = 0; what <= 8; what++) {
      Check.due("the 512th call, count(" + what + ")", behind511Calls().count(what), due[what]);
    }
    Check.due("the 512th call, falls()", behind511Calls().falls(), -1);
    Check.due("the 512th call, mean()", behind511Calls().mean(), 67334.0 / 101000.0);
    Check.due("the 512th call, go(200)", behind511Calls().go(200), 0);
    Check.due("the 512th call, advise(0, 60)", behind511Calls().advise(0, 60), -1);
    Check.due("the 512th call, juggler(0, 6)", behind511Calls().juggler(0, 6), 67332);
    Check.due("the 512th call, thing(0, 5)", behind511Calls().thing(0, 5), 33667);
  }

  // Two balls in a cascade of three, in which each third throw finds an empty hand.
  private static HammerEggs behind511Calls() {
    HammerEggs x = Rings.of(1);
    x.setPattern(0, 1, 3);
    x.make(Rings.BALL);
    x.make(Rings.BALL);
    x.give(0, 0, 0);
    x.give(1, 0, 1);
    for (int i = 0; i < 505; i++) {
      x.go(200);
    }
    return x;
  }

  // "Time is told in beats, from 0." "3. The beat is 1 greater."
  private static void beatsAreToldFrom0() {
    HammerEggs x = new HammerEggs();
    Check.due("the first beat", x.count(0), 0);
    for (int beat = 1; beat <= 5; beat++) {
      x.go(1);
      Check.due("a beat more", x.count(0), beat);
    }
    HammerEggs full = Rings.full();
    full.go(200);
    Check.due("200 beats more, in a full ring", full.count(0), 200);
  }

  // "In the beat b all jugglers use the hand b by the remainder of 2.": to throw
  private static void handsGoRoundInThrowing() {
    int[] beats = {0, 1, 2, 3, 4, 199, 200, 201};
    for (int beat : beats) {
      HammerEggs x = Rings.of(9, 9, 9, 9);
      Rings.letGo(x, beat);
      for (int i = 0; i < 4; i++) {
        x.setPattern(i, 1, 9);
        x.make(Rings.BALL);
        x.make(Rings.BALL);
        x.give(2 * i, i, 0);
        x.give(2 * i + 1, i, 1);
      }
      x.go(1);
      int used = beat % 2;
      for (int i = 0; i < 4; i++) {
        String who = "juggler " + i + " in the beat " + beat;
        Check.due(who + ": the hand used", x.juggler(i, 2 + used), -1);
        Check.due(who + ": the other hand", x.juggler(i, 3 - used), 2 * i + 1 - used);
      }
    }
  }

  // "In the beat b all jugglers use the hand b by the remainder of 2.": to catch
  private static void handsGoRoundInCatching() {
    for (int height = 1; height <= 9; height++) {
      for (int hand = 0; hand <= 1; hand++) {
        HammerEggs x = Rings.of(9, 9);
        x.setPattern(0, 1, height);
        x.pass(0, 0, 1);
        x.make(Rings.BALL);
        x.give(0, 0, hand);
        x.go(hand + height + 1);
        int catching = (hand + height) % 2;
        String what = "thrown by the hand " + hand + " with " + height;
        Check.due(what + ": caught by", x.thing(0, 3), catching);
        Check.due(what + ": in this hand", x.juggler(1, 2 + catching), 0);
        Check.due(what + ": in the other one", x.juggler(1, 3 - catching), -1);
      }
    }
  }

  // "There are at most 12, numbered from 0 in the order of their making"
  private static void atMost12Things() {
    HammerEggs x = new HammerEggs();
    for (int i = 0; i < 12; i++) {
      Check.due("the number", x.make((i * 2) % 3), i);
    }
    for (int i = 0; i < 12; i++) {
      Check.due("the kind of " + i, x.thing(i, 0), (i * 2) % 3);
    }
    Check.refused(x, "a 13th thing", STATE, () -> x.make(0));
    Check.refused(x, "thing(12, 0)", INDEX, () -> x.thing(12, 0));
    Check.due("things", x.count(2), 12);
  }

  // "each is of a kind, 0 a ball, 1 a hammer, 2 an egg"
  private static void threeKinds() {
    HammerEggs x = new HammerEggs();
    Check.refused(x, "a kind below the ball", ARGUMENT, () -> x.make(-1));
    for (int kind = 0; kind <= 2; kind++) {
      x.make(kind);
      Check.due("the kind", x.thing(kind, 0), kind);
    }
    Check.refused(x, "a kind above the egg", ARGUMENT, () -> x.make(3));
  }

  // "is in a hand, in the air [..], on the floor (at first), or broken"
  private static void onTheFloorAtFirst() {
    HammerEggs x = Rings.of(1);
    x.setPattern(0, 1, 4);
    for (int kind = 0; kind <= 2; kind++) {
      x.make(kind);
      Check.due("at first", x.thing(kind, 1), 0);
    }
    x.give(2, 0, 0);
    Check.due("in a hand", x.thing(2, 1), 1);
    x.go(1);
    Check.due("in the air", x.thing(2, 1), 2);
    x.go(4);
    Check.due("broken", x.thing(2, 1), 3);
    Check.due("the others stay on the floor", x.count(5), 2);
  }

  // "There are at most 4, numbered likewise"
  private static void atMost4Jugglers() {
    HammerEggs x = new HammerEggs();
    for (int i = 0; i < 4; i++) {
      Check.due("the number", x.come(9 - i), i);
    }
    for (int i = 0; i < 4; i++) {
      Check.due("the skill of " + i, x.juggler(i, 0), 9 - i);
    }
    Check.refused(x, "a fifth juggler", STATE, () -> x.come(1));
    Check.refused(x, "juggler(4, 0)", INDEX, () -> x.juggler(4, 0));
    Check.due("jugglers", x.count(1), 4);
  }

  // "each has two hands, 0 and 1, each with one thing at most"
  private static void aHandHoldsOneThing() {
    HammerEggs x = Rings.of(9);
    for (int i = 0; i < 4; i++) {
      x.make(Rings.BALL);
    }
    x.give(0, 0, 0);
    x.give(1, 0, 1);
    Check.refused(x, "a second thing in the hand 0", STATE, () -> x.give(2, 0, 0));
    Check.refused(x, "a second thing in the hand 1", STATE, () -> x.give(2, 0, 1));
    Check.refused(x, "a hand below 0", INDEX, () -> x.give(2, 0, -1));
    Check.refused(x, "a third hand", INDEX, () -> x.give(2, 0, 2));
    Check.due("things in hands", x.count(3), 2);
  }

  // "skill, 1 to 9, and bruises (0, at first)"
  private static void skillAndBruisesAtFirst() {
    for (int skill = 1; skill <= 9; skill++) {
      HammerEggs x = Rings.of(skill);
      Check.due("skill", x.juggler(0, 0), skill);
      Check.due("bruises", x.juggler(0, 1), 0);
    }
    HammerEggs x = new HammerEggs();
    Check.refused(x, "skill 0", ARGUMENT, () -> x.come(0));
    Check.refused(x, "skill 10", ARGUMENT, () -> x.come(10));
  }

  // "a pattern: a row of 1 to 8 throws, each with a height, 0 to 9"
  private static void rowsOf1To8Throws() {
    HammerEggs x = Rings.of(5);
    int nines = 0;
    for (int length = 1; length <= 8; length++) {
      nines = nines * 10 + 9;
      x.setPattern(0, length, 0);
      Check.due("throws", x.juggler(0, 4), length);
      Check.due("the least height", x.written(0, length - 1, 0), 0);
      x.setPattern(0, length, nines);
      Check.due("the greatest height, first", x.written(0, 0, 0), 9);
      Check.due("the greatest height, last", x.written(0, length - 1, 0), 9);
    }
    Check.refused(x, "a row of 0", ARGUMENT, () -> x.setPattern(0, 0, 0));
    Check.refused(x, "a row of 9", ARGUMENT, () -> x.setPattern(0, 9, 0));
  }

  // "(one throw of the height 0 to oneself, at first)"
  private static void thePatternAtFirst() {
    HammerEggs x = Rings.of(5, 5, 5, 5);
    for (int i = 0; i < 4; i++) {
      int juggler = i;
      Check.due("throws", x.juggler(i, 4), 1);
      Check.due("height", x.written(i, 0, 0), 0);
      Check.due("to oneself", x.written(i, 0, 1), i);
      Check.refused(x, "no second throw", INDEX, () -> x.written(juggler, 1, 0));
    }
    x.make(Rings.BALL);
    x.give(0, 3, 0);
    x.go(200);
    Check.due("so nothing is thrown", x.count(8), 0);
  }

  // "In the beat b the throw at the place b by the remainder of its length is thrown."
  private static void placesGoRound() {
    int[] beats = {0, 1, 2, 3, 4, 5, 6, 7, 8, 9, 15, 16, 17, 23, 24, 199, 200, 201, 839, 840};
    for (int length = 1; length <= 8; length++) {
      for (int beat : beats) {
        HammerEggs x = Rings.of(9, 9);
        Rings.letGo(x, beat);
        // Heights 2 to 9 by place, so that the time in the air tells which throw it was.
        x.setPattern(0, length, Integer.parseInt("23456789".substring(0, length)));
        x.pass(0, beat % length, 1);
        x.make(Rings.BALL);
        x.give(0, 0, beat % 2);
        x.go(1);
        String what = "length " + length + " in the beat " + beat;
        Check.due(what + ": comes down in", x.thing(0, 4), beat % length + 1);
        Check.due(what + ": flies to", x.thing(0, 2), 1);
      }
    }
  }

  private static HammerEggs thrownOnce(int skill, int height, int kind) {
    HammerEggs x = Rings.solo(skill, 1, height, kind, 0);
    x.go(1);
    x.setPattern(0, 1, 0);
    return x;
  }

  private static void dueInAir(int kind, int height, int beats) {
    HammerEggs x = thrownOnce(9, height, kind);
    String what = "kind " + kind + " with the height " + height;
    Check.due(what + ": comes down in", x.thing(0, 4), beats - 1);
    if (beats > 1) {
      x.go(beats - 1);
    }
    Check.due(what + ": still in the air", x.thing(0, 1), 2);
    Check.due(what + ": in the next beat", x.thing(0, 4), 0);
    x.go(1);
    Check.due(what + ": no longer in the air", x.thing(0, 4), -1);
    Check.due(what + ": caught", x.juggler(0, 6), 1);
  }

  // "A thing thrown with the height h, 1 or more, is in the air for h beats"
  private static void inTheAirForHBeats() {
    for (int height = 1; height <= 9; height++) {
      dueInAir(Rings.BALL, height, height);
    }
  }

  // "a hammer with a height of 3 or more for one beat less"
  private static void aHammerOneBeatLess() {
    dueInAir(Rings.HAMMER, 1, 1);
    dueInAir(Rings.HAMMER, 2, 2);
    dueInAir(Rings.HAMMER, 3, 2);
    dueInAir(Rings.HAMMER, 4, 3);
    dueInAir(Rings.HAMMER, 9, 8);
  }

  // "an egg with a height of 5 or more for one beat more"
  private static void anEggOneBeatMore() {
    dueInAir(Rings.EGG, 1, 1);
    dueInAir(Rings.EGG, 4, 4);
    dueInAir(Rings.EGG, 5, 6);
    dueInAir(Rings.EGG, 6, 7);
    dueInAir(Rings.EGG, 9, 10);
  }

  // "things in the air that come down in this beat, by numbers, come to the hand"
  private static void byNumbers() {
    // 2, 1 and 0 are thrown in the beats 0, 2 and 4, by three jugglers, and all come down in 6.
    HammerEggs x = Rings.of(9, 9, 9, 9);
    int[] heights = {6, 4, 2};
    for (int i = 0; i < 3; i++) {
      x.make(Rings.BALL);
      x.setPattern(i, 1, heights[i]);
      x.pass(i, 0, 3);
    }
    for (int i = 0; i < 3; i++) {
      x.give(2 - i, i, 0);
      x.go(i < 2 ? 2 : 1);
    }
    for (int i = 0; i < 3; i++) {
      Check.due("all come down at once", x.thing(i, 4), 1);
    }
    Check.due("two of three fall", x.go(2), 2);
    Check.due("the least number is caught", x.juggler(3, 2), 0);
    Check.due("1 has fallen", x.thing(1, 6), 1);
    Check.due("2 has fallen", x.thing(2, 6), 1);
  }

  // "It is caught, if this hand has nothing"
  private static void caughtIfThisHandHasNothing() {
    HammerEggs otherFull = Rings.solo(9, 2, 20, Rings.BALL, 0);
    otherFull.make(Rings.BALL);
    otherFull.give(1, 0, 1);
    Check.due("the other hand is full", otherFull.go(3), 0);
    HammerEggs thisFull = Rings.solo(9, 2, 20, Rings.BALL, 0);
    thisFull.go(1);
    thisFull.make(Rings.BALL);
    thisFull.give(1, 0, 0);
    Check.due("this hand is full, though it throws in this beat", thisFull.go(2), 1);
    Check.due("the one that came has fallen", thisFull.thing(0, 6), 1);
    Check.due("the one that was there was thrown", thisFull.thing(1, 1), 2);
  }

  // "the height with which it was thrown is not more than the juggler's skill + 2"
  private static void notMoreThanSkillAnd2() {
    for (int kind = 0; kind <= 2; kind++) {
      for (int skill = 1; skill <= 9; skill++) {
        int last = skill + 2 < 9 ? skill + 2 : 9;
        HammerEggs caught = thrownOnce(skill, last, kind);
        Check.due("kind " + kind + ", skill " + skill + ", the last", caught.go(10), 0);
        Check.due("it is caught", caught.juggler(0, 6), 1);
        if (skill + 3 <= 9) {
          HammerEggs fallen = thrownOnce(skill, skill + 3, kind);
          Check.due("kind " + kind + ", skill " + skill + ", too high", fallen.go(10), 1);
          Check.due("it is not caught", fallen.juggler(0, 6), 0);
        }
      }
    }
  }

  private static HammerEggs fallenAtTheOther(int kind, int height, boolean fullHand) {
    HammerEggs x = Rings.of(9, 1);
    x.setPattern(0, 8, height * 10000000);
    x.pass(0, 0, 1);
    x.make(kind);
    x.make(Rings.BALL);
    x.give(0, 0, 0);
    if (fullHand) {
      x.give(1, 1, 0);
    }
    Check.due("one falls", x.go(7), 1);
    Check.due("it", x.thing(0, 6), 1);
    return x;
  }

  // "Otherwise it falls: an egg is broken, a ball or hammer is on the floor"
  private static void brokenOrOnTheFloor() {
    for (int kind = 0; kind <= 2; kind++) {
      int due = kind == Rings.EGG ? 3 : 0;
      Check.due("too high: " + kind, fallenAtTheOther(kind, 4, false).thing(0, 1), due);
      Check.due("full hand: " + kind, fallenAtTheOther(kind, 2, true).thing(0, 1), due);
    }
  }

  // "by a hammer the juggler has a bruise more": the one to whom it comes, by nothing else
  private static void aBruiseMore() {
    for (int kind = 0; kind <= 2; kind++) {
      int due = kind == Rings.HAMMER ? 1 : 0;
      HammerEggs high = fallenAtTheOther(kind, 4, false);
      Check.due("too high: " + kind, high.juggler(1, 1), due);
      Check.due("too high, the thrower: " + kind, high.juggler(0, 1), 0);
      HammerEggs full = fallenAtTheOther(kind, 2, true);
      Check.due("full hand: " + kind, full.juggler(1, 1), due);
      Check.due("full hand, the thrower: " + kind, full.juggler(0, 1), 0);
    }
    HammerEggs twice = fallenAtTheOther(Rings.HAMMER, 4, false);
    twice.go(1);
    twice.give(0, 0, 0);
    twice.go(4);
    Check.due("a second one", twice.juggler(1, 1), 2);
  }

  // "who has a thing in the hand of this beat [..] throws it": an empty hand throws nothing
  private static void anEmptyHandThrowsNothing() {
    HammerEggs x = Rings.of(9);
    x.setPattern(0, 1, 9);
    x.make(Rings.BALL);
    x.go(2);
    Check.due("nothing in both hands", x.count(8), 0);
    Check.due("what lies on the floor stays there", x.thing(0, 1), 0);
    HammerEggs other = Rings.solo(9, 1, 9, Rings.BALL, 1);
    other.go(1);
    Check.due("a thing in the other hand", other.count(8), 0);
    other.go(1);
    Check.due("a thing in this hand", other.count(8), 1);
  }

  // "and a throw with a height of 1 or more, throws it"
  private static void aHeightOf0Holds() {
    HammerEggs held = Rings.solo(9, 1, 0, Rings.BALL, 0);
    held.go(1);
    Check.due("the height 0", held.thing(0, 1), 1);
    Check.due("is no throw", held.thing(0, 5), 0);
    HammerEggs thrown = Rings.solo(9, 1, 1, Rings.BALL, 0);
    thrown.go(1);
    Check.due("the height 1", thrown.thing(0, 1), 2);
    Check.due("is a throw", thrown.thing(0, 5), 1);
  }

  // "2. Throwing": behind 1, so what was caught in a beat is thrown in it
  private static void caughtAndThrownInOneBeat() {
    HammerEggs x = Rings.solo(9, 1, 1, Rings.EGG, 0);
    x.go(200);
    Check.due("a throw in each beat", x.thing(0, 5), 200);
    Check.due("a catch in each but the first", x.juggler(0, 6), 199);
    Check.due("it still flies", x.thing(0, 4), 0);
  }

  public static void main(String[] args) {
    the512thCall();
    beatsAreToldFrom0();
    handsGoRoundInThrowing();
    handsGoRoundInCatching();
    atMost12Things();
    threeKinds();
    onTheFloorAtFirst();
    atMost4Jugglers();
    aHandHoldsOneThing();
    skillAndBruisesAtFirst();
    rowsOf1To8Throws();
    thePatternAtFirst();
    placesGoRound();
    inTheAirForHBeats();
    aHammerOneBeatLess();
    anEggOneBeatMore();
    byNumbers();
    caughtIfThisHandHasNothing();
    notMoreThanSkillAnd2();
    brokenOrOnTheFloor();
    aBruiseMore();
    anEmptyHandThrowsNothing();
    aHeightOf0Holds();
    caughtAndThrownInOneBeat();
    Check.end();
  }
}
