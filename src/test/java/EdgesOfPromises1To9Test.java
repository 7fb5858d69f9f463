/**
 * Promises 1 to 9: each sentence that names a boundary case has a test of its own, which bears
 * the sentence.
 */
public final class EdgesOfPromises1To9Test {
  private static final Class<IndexOutOfBoundsException> INDEX = IndexOutOfBoundsException.class;
  private static final Class<IllegalArgumentException> ARGUMENT = IllegalArgumentException.class;
  private static final Class<IllegalStateException> STATE = IllegalStateException.class;
  private static final int LEAST = Integer.MIN_VALUE;
  private static final int GREATEST = Integer.MAX_VALUE;

  // Promise 1: "Creates a ring without jugglers and things, in the beat 0."
  private static void promise1AnEmptyRing() {
    for (int what = 0; what <= 8; what++) {
      Check.due("count(" + what + ")", new HammerEggs().count(what), 0);
    }
    HammerEggs x = new HammerEggs();
    Check.refused(x, "no juggler 0", INDEX, () -> x.juggler(0, 0));
    Check.refused(x, "no thing 0", INDEX, () -> x.thing(0, 0));
    Check.due("falls()", x.falls(), -1);
    Check.due("foresee(200, 0)", x.foresee(200, 0), 0);
    Check.due("foresee(200, 1)", x.foresee(200, 1), 0);
    Check.due("foresee(200, 2)", x.foresee(200, 2), 0);
    Check.due("mean()", x.mean(), 0.0);
    Check.due("go(200)", x.go(200), 0);
    Check.due("the beat behind it", x.count(0), 200);
    Check.due("mean() behind it", x.mean(), 0.0);
    Check.due("the first juggler, late", x.come(1), 0);
    Check.due("the first thing, late", x.make(0), 0);
  }

  // Promise 1: "without things", but with jugglers, and "without jugglers", but with things
  private static void promise1HalfEmptyRings() {
    HammerEggs jugglers = Rings.of(1, 9);
    jugglers.setPattern(0, 1, 9);
    Check.due("no things: go(200)", jugglers.go(200), 0);
    Check.due("no things: thrown", jugglers.count(8), 0);
    Check.due("no things: falls()", jugglers.falls(), -1);
    Check.due("no things: advise(0, 60)", jugglers.advise(0, 60), -1);
    Check.refused(jugglers, "no things: give", INDEX, () -> jugglers.give(0, 0, 0));
    Check.refused(jugglers, "no things: thing", INDEX, () -> jugglers.thing(0, 0));
    HammerEggs things = new HammerEggs();
    things.make(Rings.EGG);
    Check.due("no jugglers: go(200)", things.go(200), 0);
    Check.due("no jugglers: on the floor", things.count(5), 1);
    Check.due("no jugglers: falls()", things.falls(), -1);
    Check.refused(things, "no jugglers: give", INDEX, () -> things.give(0, 0, 0));
    Check.refused(things, "no jugglers: setPattern", INDEX, () -> things.setPattern(0, 1, 1));
    Check.refused(things, "no jugglers: pass", INDEX, () -> things.pass(0, 0, 0));
    Check.refused(things, "no jugglers: written", INDEX, () -> things.written(0, 0, 0));
    Check.refused(things, "no jugglers: lasts", INDEX, () -> things.lasts(0));
    Check.refused(things, "no jugglers: asks", INDEX, () -> things.asks(0));
    Check.refused(things, "no jugglers: shortest", INDEX, () -> things.shortest(0));
    Check.refused(things, "no jugglers: advise", INDEX, () -> things.advise(0, 1));
    Check.refused(things, "no jugglers: juggler", INDEX, () -> things.juggler(0, 0));
  }

  // Promise 2: "Throws IllegalArgumentException if skill is not 1 to 9"
  private static void promise2SkillsOf1To9() {
    HammerEggs x = new HammerEggs();
    Check.refused(x, "come(0)", ARGUMENT, () -> x.come(0));
    Check.due("come(1)", x.come(1), 0);
    Check.due("come(9)", x.come(9), 1);
    Check.refused(x, "come(10)", ARGUMENT, () -> x.come(10));
    Check.refused(x, "come(-1)", ARGUMENT, () -> x.come(-1));
    Check.refused(x, "come(least)", ARGUMENT, () -> x.come(LEAST));
    Check.refused(x, "come(greatest)", ARGUMENT, () -> x.come(GREATEST));
    Check.due("the next number", x.come(5), 2);
  }

  // Promise 2: "Throws IllegalStateException if there are 4"
  private static void promise2NoFifthJuggler() {
    HammerEggs x = Rings.of(1, 1, 1);
    Check.due("the fourth", x.come(9), 3);
    Check.refused(x, "the fifth", STATE, () -> x.come(9));
    Check.refused(x, "the fifth, again", STATE, () -> x.come(1));
    Check.due("still 4", x.count(1), 4);
  }

  // Promise 2, with Terms: "the one that is named first is thrown"
  private static void promise2SkillIsNamedFirst() {
    HammerEggs x = Rings.of(1, 1, 1, 1);
    Check.refused(x, "the fifth, come(0)", ARGUMENT, () -> x.come(0));
    Check.refused(x, "the fifth, come(10)", ARGUMENT, () -> x.come(10));
    Check.refused(x, "the fifth, come(least)", ARGUMENT, () -> x.come(LEAST));
    Check.refused(x, "the fifth, come(greatest)", ARGUMENT, () -> x.come(GREATEST));
  }

  // Promise 3: "Throws IndexOutOfBoundsException if there is no such juggler"
  private static void promise3Jugglers() {
    HammerEggs x = Rings.of(5, 5);
    Check.refused(x, "setPattern(-1, 1, 1)", INDEX, () -> x.setPattern(-1, 1, 1));
    Check.due("setPattern(0, 1, 1)", x.setPattern(0, 1, 1), 1);
    Check.due("setPattern(1, 1, 1)", x.setPattern(1, 1, 1), 1);
    Check.refused(x, "setPattern(2, 1, 1)", INDEX, () -> x.setPattern(2, 1, 1));
    Check.refused(x, "setPattern(least, 1, 1)", INDEX, () -> x.setPattern(LEAST, 1, 1));
    Check.refused(x, "setPattern(greatest, 1, 1)", INDEX, () -> x.setPattern(GREATEST, 1, 1));
    HammerEggs full = Rings.of(1, 1, 1, 1);
    Check.due("setPattern(3, 1, 1)", full.setPattern(3, 1, 1), 1);
    Check.refused(full, "setPattern(4, 1, 1)", INDEX, () -> full.setPattern(4, 1, 1));
  }

  // Promise 3: "Throws IllegalArgumentException if length is not 1 to 8"
  private static void promise3LengthsOf1To8() {
    HammerEggs x = Rings.of(5);
    Check.refused(x, "setPattern(0, 0, 0)", ARGUMENT, () -> x.setPattern(0, 0, 0));
    Check.due("setPattern(0, 1, 0)", x.setPattern(0, 1, 0), 1);
    Check.due("setPattern(0, 8, 0)", x.setPattern(0, 8, 0), 1);
    Check.refused(x, "setPattern(0, 9, 0)", ARGUMENT, () -> x.setPattern(0, 9, 0));
    Check.refused(x, "setPattern(0, -1, 0)", ARGUMENT, () -> x.setPattern(0, -1, 0));
    Check.refused(x, "setPattern(0, 10, 0)", ARGUMENT, () -> x.setPattern(0, 10, 0));
    Check.refused(x, "setPattern(0, least, 0)", ARGUMENT, () -> x.setPattern(0, LEAST, 0));
    Check.refused(x, "setPattern(0, greatest, 0)", ARGUMENT, () -> x.setPattern(0, GREATEST, 0));
    Check.due("still 8 throws", x.juggler(0, 4), 8);
  }

  // Promise 3: "or heights is not a number of at most length digits (0 or more)"
  private static void promise3AtMostLengthDigits() {
    int[] powers = {1, 10, 100, 1000, 10000, 100000, 1000000, 10000000, 100000000};
    for (int n = 1; n <= 8; n++) {
      int length = n;
      HammerEggs x = Rings.of(5);
      Check.due("the least number", x.setPattern(0, length, 0), 1);
      Check.due("the greatest number", x.setPattern(0, length, powers[length] - 1), length);
      String what = "length " + length + ", ";
      Check.refused(x, what + "a digit more", ARGUMENT,
          () -> x.setPattern(0, length, powers[length]));
      Check.refused(x, what + "-1", ARGUMENT, () -> x.setPattern(0, length, -1));
      Check.refused(x, what + "least", ARGUMENT, () -> x.setPattern(0, length, LEAST));
      Check.refused(x, what + "greatest", ARGUMENT, () -> x.setPattern(0, length, GREATEST));
      Check.due("the last height stays", x.written(0, length - 1, 0), 9);
    }
  }

  // Promise 3, with Terms: "the one that is named first is thrown"
  private static void promise3JugglerIsNamedFirst() {
    HammerEggs x = Rings.of(5);
    Check.refused(x, "setPattern(1, 0, 0)", INDEX, () -> x.setPattern(1, 0, 0));
    Check.refused(x, "setPattern(1, 9, 0)", INDEX, () -> x.setPattern(1, 9, 0));
    Check.refused(x, "setPattern(1, 1, 10)", INDEX, () -> x.setPattern(1, 1, 10));
    Check.refused(x, "setPattern(1, 1, -1)", INDEX, () -> x.setPattern(1, 1, -1));
    Check.refused(x, "setPattern(-1, 0, -1)", INDEX, () -> x.setPattern(-1, 0, -1));
    Check.refused(x, "setPattern(4, 9, -1)", INDEX, () -> x.setPattern(4, 9, -1));
  }

  // Promise 3: "the first throw as the highest one of length digits"
  private static void promise3LeadingNoughts() {
    HammerEggs x = Rings.of(5);
    for (int length = 1; length <= 8; length++) {
      x.setPattern(0, length, 7);
      for (int place = 0; place < length; place++) {
        Check.due("7 in " + length + " digits, place " + place,
            x.written(0, place, 0), place == length - 1 ? 7 : 0);
      }
    }
    x.setPattern(0, 8, 10000000);
    Check.due("the first of eight", x.written(0, 0, 0), 1);
    Check.due("the last of eight", x.written(0, 7, 0), 0);
  }

  // Promise 3: "Sets the pattern of a juggler: all throws go to oneself."
  private static void promise3AllGoToOneself() {
    HammerEggs x = Rings.of(5, 5);
    x.setPattern(1, 8, 11111111);
    for (int place = 0; place < 8; place++) {
      x.pass(1, place, 0);
    }
    x.setPattern(1, 1, 2);
    Check.due("of one throw", x.written(1, 0, 1), 1);
    x.setPattern(1, 8, 33333333);
    for (int place = 0; place < 8; place++) {
      Check.due("the place " + place, x.written(1, place, 1), 1);
    }
    Check.due("the other's pattern is left alone", x.written(0, 0, 0), 0);
  }

  // Promise 3: "Returns how many throws the pattern had before."
  private static void promise3ThrowsBefore() {
    HammerEggs x = Rings.of(5);
    Check.due("at first", x.setPattern(0, 8, 0), 1);
    Check.due("8", x.setPattern(0, 8, 1), 8);
    Check.due("8 again", x.setPattern(0, 1, 1), 8);
    Check.due("1", x.setPattern(0, 1, 2), 1);
  }

  // Promise 4: "Throws IndexOutOfBoundsException if there is no such juggler"
  private static void promise4Jugglers() {
    HammerEggs x = Rings.of(5, 5);
    Check.refused(x, "pass(-1, 0, 0)", INDEX, () -> x.pass(-1, 0, 0));
    Check.due("pass(0, 0, 0)", x.pass(0, 0, 0), 0);
    Check.due("pass(1, 0, 0)", x.pass(1, 0, 0), 1);
    Check.refused(x, "pass(2, 0, 0)", INDEX, () -> x.pass(2, 0, 0));
    Check.refused(x, "pass(least, 0, 0)", INDEX, () -> x.pass(LEAST, 0, 0));
    Check.refused(x, "pass(greatest, 0, 0)", INDEX, () -> x.pass(GREATEST, 0, 0));
  }

  // Promise 4: "or place": from 0, to the last one of the pattern as it is now
  private static void promise4Places() {
    HammerEggs x = Rings.of(5, 5);
    for (int length = 8; length >= 1; length--) {
      x.setPattern(0, length, 0);
      int behind = length;
      String what = "length " + length + ", ";
      Check.refused(x, what + "place -1", INDEX, () -> x.pass(0, -1, 1));
      Check.due(what + "the first place", x.pass(0, 0, 1), 0);
      Check.due(what + "the last place", x.pass(0, length - 1, 1), length == 1 ? 1 : 0);
      Check.refused(x, what + "behind the last", INDEX, () -> x.pass(0, behind, 1));
      Check.refused(x, what + "least", INDEX, () -> x.pass(0, LEAST, 1));
      Check.refused(x, what + "greatest", INDEX, () -> x.pass(0, GREATEST, 1));
    }
  }

  // Promise 4: "or other juggler"
  private static void promise4Others() {
    HammerEggs x = Rings.of(5, 5);
    Check.refused(x, "pass(0, 0, -1)", INDEX, () -> x.pass(0, 0, -1));
    Check.due("pass(0, 0, 1)", x.pass(0, 0, 1), 0);
    Check.due("pass(0, 0, 0)", x.pass(0, 0, 0), 1);
    Check.refused(x, "pass(0, 0, 2)", INDEX, () -> x.pass(0, 0, 2));
    Check.refused(x, "pass(0, 0, least)", INDEX, () -> x.pass(0, 0, LEAST));
    Check.refused(x, "pass(0, 0, greatest)", INDEX, () -> x.pass(0, 0, GREATEST));
    HammerEggs full = Rings.of(1, 1, 1, 1);
    Check.due("pass(0, 0, 3)", full.pass(0, 0, 3), 0);
    Check.refused(full, "pass(0, 0, 4)", INDEX, () -> full.pass(0, 0, 4));
  }

  // Promise 4: "Returns the one to whom it went before."
  private static void promise4TheOneBefore() {
    HammerEggs x = Rings.of(5, 5, 5, 5);
    Check.due("to oneself at first", x.pass(3, 0, 0), 3);
    Check.due("to 0", x.pass(3, 0, 3), 0);
    Check.due("to oneself again", x.pass(3, 0, 3), 3);
    Check.due("to oneself still", x.pass(3, 0, 2), 3);
  }

  // Promise 5: "Throws IndexOutOfBoundsException if there is no such juggler"
  private static void promise5Jugglers() {
    HammerEggs x = Rings.of(5, 5);
    Check.refused(x, "written(-1, 0, 1)", INDEX, () -> x.written(-1, 0, 1));
    Check.due("written(0, 0, 1)", x.written(0, 0, 1), 0);
    Check.due("written(1, 0, 1)", x.written(1, 0, 1), 1);
    Check.refused(x, "written(2, 0, 1)", INDEX, () -> x.written(2, 0, 1));
    Check.refused(x, "written(least, 0, 1)", INDEX, () -> x.written(LEAST, 0, 1));
    Check.refused(x, "written(greatest, 0, 1)", INDEX, () -> x.written(GREATEST, 0, 1));
  }

  // Promise 5: "or place": from 0, to the last one of the pattern as it is now
  private static void promise5Places() {
    HammerEggs x = Rings.of(5);
    for (int length = 8; length >= 1; length--) {
      x.setPattern(0, length, Integer.parseInt("98765432".substring(8 - length)));
      int behind = length;
      String what = "length " + length + ", ";
      Check.refused(x, what + "place -1", INDEX, () -> x.written(0, -1, 0));
      Check.due(what + "the first place", x.written(0, 0, 0), length + 1);
      Check.due(what + "the last place", x.written(0, length - 1, 0), 2);
      Check.refused(x, what + "behind the last", INDEX, () -> x.written(0, behind, 0));
      Check.refused(x, what + "least", INDEX, () -> x.written(0, LEAST, 0));
      Check.refused(x, what + "greatest", INDEX, () -> x.written(0, GREATEST, 0));
    }
  }

  // Promise 5: "or what is not 0 to 1"
  private static void promise5What() {
    HammerEggs x = Rings.of(5, 5);
    x.setPattern(0, 1, 9);
    x.pass(0, 0, 1);
    Check.refused(x, "written(0, 0, -1)", INDEX, () -> x.written(0, 0, -1));
    Check.due("written(0, 0, 0)", x.written(0, 0, 0), 9);
    Check.due("written(0, 0, 1)", x.written(0, 0, 1), 1);
    Check.refused(x, "written(0, 0, 2)", INDEX, () -> x.written(0, 0, 2));
    Check.refused(x, "written(0, 0, least)", INDEX, () -> x.written(0, 0, LEAST));
    Check.refused(x, "written(0, 0, greatest)", INDEX, () -> x.written(0, 0, GREATEST));
  }

  // Promise 6: "Throws IllegalArgumentException if kind is not 0 to 2"
  private static void promise6KindsOf0To2() {
    HammerEggs x = new HammerEggs();
    Check.refused(x, "make(-1)", ARGUMENT, () -> x.make(-1));
    Check.due("make(0)", x.make(0), 0);
    Check.due("make(2)", x.make(2), 1);
    Check.refused(x, "make(3)", ARGUMENT, () -> x.make(3));
    Check.refused(x, "make(least)", ARGUMENT, () -> x.make(LEAST));
    Check.refused(x, "make(greatest)", ARGUMENT, () -> x.make(GREATEST));
    Check.due("the next number", x.make(1), 2);
  }

  private static HammerEggs withThings(int things) {
    HammerEggs x = Rings.of(1, 1, 1, 1);
    for (int i = 0; i < things; i++) {
      x.make(Rings.EGG);
    }
    return x;
  }

  // Promise 6: "Throws IllegalStateException if there are 12"
  private static void promise6No13thThing() {
    HammerEggs x = withThings(11);
    Check.due("the 12th", x.make(0), 11);
    Check.refused(x, "the 13th", STATE, () -> x.make(0));
    Check.refused(x, "the 13th, again", STATE, () -> x.make(2));
    // Shards are things still: a broken egg makes no room for another one.
    x.setPattern(0, 1, 4);
    x.give(0, 0, 0);
    x.go(5);
    Check.due("broken", x.thing(0, 1), 3);
    Check.refused(x, "the 13th beside shards", STATE, () -> x.make(0));
  }

  // Promise 6, with Terms: "the one that is named first is thrown"
  private static void promise6KindIsNamedFirst() {
    HammerEggs x = withThings(12);
    Check.refused(x, "the 13th, make(-1)", ARGUMENT, () -> x.make(-1));
    Check.refused(x, "the 13th, make(3)", ARGUMENT, () -> x.make(3));
    Check.refused(x, "the 13th, make(least)", ARGUMENT, () -> x.make(LEAST));
    Check.refused(x, "the 13th, make(greatest)", ARGUMENT, () -> x.make(GREATEST));
  }

  // Promise 7: "Throws IndexOutOfBoundsException if there is no such thing or juggler"
  private static void promise7ThingsAndJugglers() {
    HammerEggs x = withThings(12);
    Check.refused(x, "give(-1, 0, 0)", INDEX, () -> x.give(-1, 0, 0));
    Check.due("give(0, 0, 0)", x.give(0, 0, 0), 1);
    Check.due("give(11, 3, 0)", x.give(11, 3, 0), 1);
    Check.refused(x, "give(12, 1, 0)", INDEX, () -> x.give(12, 1, 0));
    Check.refused(x, "give(least, 1, 0)", INDEX, () -> x.give(LEAST, 1, 0));
    Check.refused(x, "give(greatest, 1, 0)", INDEX, () -> x.give(GREATEST, 1, 0));
    Check.refused(x, "give(1, -1, 0)", INDEX, () -> x.give(1, -1, 0));
    Check.refused(x, "give(1, 4, 0)", INDEX, () -> x.give(1, 4, 0));
    Check.refused(x, "give(1, least, 0)", INDEX, () -> x.give(1, LEAST, 0));
    Check.refused(x, "give(1, greatest, 0)", INDEX, () -> x.give(1, GREATEST, 0));
    HammerEggs few = Rings.of(1, 1);
    few.make(0);
    few.make(0);
    Check.refused(few, "give(2, 0, 0)", INDEX, () -> few.give(2, 0, 0));
    Check.refused(few, "give(0, 2, 0)", INDEX, () -> few.give(0, 2, 0));
    Check.due("give(1, 1, 0)", few.give(1, 1, 0), 1);
  }

  // Promise 7: "or hand is not 0 or 1"
  private static void promise7Hands() {
    HammerEggs x = withThings(3);
    Check.refused(x, "give(0, 0, -1)", INDEX, () -> x.give(0, 0, -1));
    Check.due("give(0, 0, 0)", x.give(0, 0, 0), 1);
    Check.due("give(1, 0, 1)", x.give(1, 0, 1), 2);
    Check.refused(x, "give(2, 0, 2)", INDEX, () -> x.give(2, 0, 2));
    Check.refused(x, "give(2, 0, least)", INDEX, () -> x.give(2, 0, LEAST));
    Check.refused(x, "give(2, 0, greatest)", INDEX, () -> x.give(2, 0, GREATEST));
    Check.due("the hand 0", x.thing(0, 3), 0);
    Check.due("the hand 1", x.thing(1, 3), 1);
  }

  // Promise 7: "Throws IllegalStateException if it is not on the floor"
  private static void promise7NotOnTheFloor() {
    HammerEggs x = withThings(2);
    x.setPattern(0, 1, 4);
    x.give(0, 0, 0);
    Check.refused(x, "from a hand", STATE, () -> x.give(0, 1, 0));
    Check.refused(x, "from a hand to the other", STATE, () -> x.give(0, 0, 1));
    x.go(1);
    Check.refused(x, "from the air", STATE, () -> x.give(0, 1, 0));
    x.go(3);
    Check.refused(x, "from the air, a beat ahead", STATE, () -> x.give(0, 1, 0));
    x.go(1);
    Check.refused(x, "shards", STATE, () -> x.give(0, 1, 0));
    Check.due("from the floor", x.give(1, 1, 0), 1);
  }

  // Promise 7: "Gives a thing from the floor": where it fell, too
  private static void promise7FallenThings() {
    for (int kind = 0; kind <= 1; kind++) {
      HammerEggs x = Rings.solo(1, 1, 4, kind, 0);
      x.go(5);
      Check.due("on the floor again", x.thing(0, 1), 0);
      Check.due("given again", x.give(0, 0, 0), 1);
    }
  }

  // Promise 7: "or this hand has one"
  private static void promise7FullHands() {
    HammerEggs x = withThings(5);
    x.give(0, 0, 0);
    x.give(1, 1, 1);
    Check.refused(x, "the hand 0 of 0", STATE, () -> x.give(2, 0, 0));
    Check.refused(x, "the hand 1 of 1", STATE, () -> x.give(2, 1, 1));
    Check.due("the hand 1 of 0", x.give(2, 0, 1), 2);
    Check.due("the hand 0 of 1", x.give(3, 1, 0), 2);
    Check.refused(x, "both are full", STATE, () -> x.give(4, 0, 1));
    x.setPattern(0, 1, 9);
    x.go(1);
    Check.due("a hand that has thrown is free", x.give(4, 0, 0), 2);
  }

  // Promise 7, with Terms: "the one that is named first is thrown"
  private static void promise7NumbersAreNamedFirst() {
    HammerEggs x = withThings(2);
    x.give(0, 0, 0);
    Check.refused(x, "in a hand, no such juggler", INDEX, () -> x.give(0, 4, 0));
    Check.refused(x, "in a hand, no such hand", INDEX, () -> x.give(0, 0, 2));
    Check.refused(x, "in a hand, hand -1", INDEX, () -> x.give(0, 0, -1));
    Check.refused(x, "a full hand, no such thing", INDEX, () -> x.give(2, 0, 0));
    Check.refused(x, "a full hand, thing -1", INDEX, () -> x.give(-1, 0, 0));
  }

  // Promise 7: "Returns how many things the juggler holds then."
  private static void promise7HowManyItHolds() {
    HammerEggs x = withThings(4);
    Check.due("one, in the hand 1", x.give(0, 0, 1), 1);
    Check.due("two, in both", x.give(1, 0, 0), 2);
    Check.due("another juggler has one", x.give(2, 1, 0), 1);
    Check.due("and two", x.give(3, 1, 1), 2);
  }

  // Promise 8: "Throws IndexOutOfBoundsException if there is no such thing"
  private static void promise8Things() {
    HammerEggs x = withThings(12);
    Check.refused(x, "thing(-1, 0)", INDEX, () -> x.thing(-1, 0));
    Check.due("thing(0, 0)", x.thing(0, 0), 2);
    Check.due("thing(11, 0)", x.thing(11, 0), 2);
    Check.refused(x, "thing(12, 0)", INDEX, () -> x.thing(12, 0));
    Check.refused(x, "thing(least, 0)", INDEX, () -> x.thing(LEAST, 0));
    Check.refused(x, "thing(greatest, 0)", INDEX, () -> x.thing(GREATEST, 0));
    HammerEggs one = withThings(1);
    Check.refused(one, "thing(1, 0) of one", INDEX, () -> one.thing(1, 0));
  }

  // Promise 8: "or what is not 0 to 6"
  private static void promise8What() {
    HammerEggs x = withThings(1);
    Check.refused(x, "thing(0, -1)", INDEX, () -> x.thing(0, -1));
    Check.due("thing(0, 0)", x.thing(0, 0), 2);
    Check.due("thing(0, 6)", x.thing(0, 6), 0);
    Check.refused(x, "thing(0, 7)", INDEX, () -> x.thing(0, 7));
    Check.refused(x, "thing(0, least)", INDEX, () -> x.thing(0, LEAST));
    Check.refused(x, "thing(0, greatest)", INDEX, () -> x.thing(0, GREATEST));
  }

  // Promise 8: "2 the juggler who holds it, or to whom it flies, -1 otherwise"
  private static void promise8WhoseItIs() {
    HammerEggs x = withThings(1);
    x.setPattern(3, 1, 4);
    x.pass(3, 0, 2);
    Check.due("on the floor at first", x.thing(0, 2), -1);
    x.give(0, 3, 0);
    Check.due("in a hand", x.thing(0, 2), 3);
    x.go(1);
    Check.due("in the air", x.thing(0, 2), 2);
    x.go(4);
    Check.due("broken", x.thing(0, 2), -1);
    HammerEggs ball = Rings.solo(1, 1, 4, Rings.BALL, 0);
    ball.go(5);
    Check.due("on the floor again", ball.thing(0, 2), -1);
  }

  // Promise 8: "3 the hand in which it is, -1 otherwise"
  private static void promise8ItsHand() {
    HammerEggs x = withThings(2);
    x.setPattern(3, 1, 4);
    Check.due("on the floor at first", x.thing(0, 3), -1);
    x.give(0, 3, 1);
    x.give(1, 3, 0);
    Check.due("the hand 1", x.thing(0, 3), 1);
    Check.due("the hand 0", x.thing(1, 3), 0);
    x.go(2);
    Check.due("in the air", x.thing(0, 3), -1);
    x.go(4);
    Check.due("broken", x.thing(0, 3), -1);
    HammerEggs ball = Rings.solo(1, 1, 4, Rings.BALL, 0);
    ball.go(5);
    Check.due("on the floor again", ball.thing(0, 3), -1);
  }

  // Promise 8: "4 in how many beats it comes down (0: in the one that is next)"
  private static void promise8ComesDownNext() {
    HammerEggs longest = Rings.solo(9, 1, 9, Rings.EGG, 0);
    longest.go(1);
    for (int left = 9; left > 0; left--) {
      Check.due("beats left", longest.thing(0, 4), left);
      longest.go(1);
    }
    Check.due("in the next beat", longest.thing(0, 4), 0);
    longest.go(1);
    Check.due("caught and thrown in it", longest.thing(0, 4), 9);
    HammerEggs shortest = Rings.solo(9, 1, 1, Rings.EGG, 0);
    shortest.go(1);
    Check.due("the shortest flight", shortest.thing(0, 4), 0);
  }

  // Promise 8: "-1 if it is not in the air"
  private static void promise8NotInTheAir() {
    HammerEggs x = withThings(1);
    x.setPattern(0, 1, 4);
    Check.due("on the floor at first", x.thing(0, 4), -1);
    x.give(0, 0, 0);
    Check.due("in a hand", x.thing(0, 4), -1);
    x.go(5);
    Check.due("broken", x.thing(0, 4), -1);
    HammerEggs ball = Rings.solo(1, 1, 4, Rings.BALL, 0);
    ball.go(5);
    Check.due("on the floor again", ball.thing(0, 4), -1);
    HammerEggs caught = Rings.solo(9, 2, 20, Rings.BALL, 0);
    caught.go(1);
    caught.setPattern(0, 1, 0);
    caught.go(2);
    Check.due("in a hand again", caught.thing(0, 4), -1);
  }

  // Promise 8: "5 how often it was thrown in all, 6 how often it fell in all"
  private static void promise8InAll() {
    HammerEggs x = Rings.of(1);
    x.setPattern(0, 1, 4);
    x.make(Rings.BALL);
    Check.due("never thrown", x.thing(0, 5), 0);
    Check.due("never fallen", x.thing(0, 6), 0);
    for (int n = 1; n <= 3; n++) {
      x.give(0, 0, x.count(0) % 2);
      x.go(5);
      Check.due("thrown", x.thing(0, 5), n);
      Check.due("fallen", x.thing(0, 6), n);
    }
    x.go(200);
    Check.due("not thrown from the floor", x.thing(0, 5), 3);
    Check.due("not fallen from the floor", x.thing(0, 6), 3);
  }

  // Promise 9: "Throws IndexOutOfBoundsException if there is no such juggler"
  private static void promise9Jugglers() {
    HammerEggs x = Rings.of(4, 5, 6, 7);
    Check.refused(x, "juggler(-1, 0)", INDEX, () -> x.juggler(-1, 0));
    Check.due("juggler(0, 0)", x.juggler(0, 0), 4);
    Check.due("juggler(3, 0)", x.juggler(3, 0), 7);
    Check.refused(x, "juggler(4, 0)", INDEX, () -> x.juggler(4, 0));
    Check.refused(x, "juggler(least, 0)", INDEX, () -> x.juggler(LEAST, 0));
    Check.refused(x, "juggler(greatest, 0)", INDEX, () -> x.juggler(GREATEST, 0));
    HammerEggs one = Rings.of(4);
    Check.refused(one, "juggler(1, 0) of one", INDEX, () -> one.juggler(1, 0));
  }

  // Promise 9: "or what is not 0 to 6"
  private static void promise9What() {
    HammerEggs x = Rings.of(4);
    Check.refused(x, "juggler(0, -1)", INDEX, () -> x.juggler(0, -1));
    Check.due("juggler(0, 0)", x.juggler(0, 0), 4);
    Check.due("juggler(0, 6)", x.juggler(0, 6), 0);
    Check.refused(x, "juggler(0, 7)", INDEX, () -> x.juggler(0, 7));
    Check.refused(x, "juggler(0, least)", INDEX, () -> x.juggler(0, LEAST));
    Check.refused(x, "juggler(0, greatest)", INDEX, () -> x.juggler(0, GREATEST));
  }

  // Promise 9: "2 and 3 the thing in the hand 0 and 1, -1 for none"
  private static void promise9Hands() {
    HammerEggs x = withThings(12);
    Check.due("the hand 0, none", x.juggler(0, 2), -1);
    Check.due("the hand 1, none", x.juggler(0, 3), -1);
    x.give(0, 0, 0);
    Check.due("the hand 0, the thing 0", x.juggler(0, 2), 0);
    Check.due("the hand 1, none still", x.juggler(0, 3), -1);
    x.give(11, 0, 1);
    Check.due("the hand 0, the thing 0 still", x.juggler(0, 2), 0);
    Check.due("the hand 1, the thing 11", x.juggler(0, 3), 11);
    x.setPattern(0, 1, 9);
    x.go(1);
    Check.due("the hand 0, none again", x.juggler(0, 2), -1);
    Check.due("the hand 1, the thing 11 still", x.juggler(0, 3), 11);
    x.go(1);
    Check.due("the hand 1, none again", x.juggler(0, 3), -1);
  }

  // Promise 9: "4 throws of the pattern": 1 to 8
  private static void promise9Throws() {
    HammerEggs x = Rings.of(4);
    Check.due("at first", x.juggler(0, 4), 1);
    for (int length = 8; length >= 1; length--) {
      x.setPattern(0, length, 0);
      Check.due("throws", x.juggler(0, 4), length);
    }
  }

  // Promise 9: "5 things that fly to this one": not what is held, nor what lies on the floor
  private static void promise9ThingsThatFly() {
    HammerEggs x = withThings(12);
    for (int i = 0; i < 4; i++) {
      x.setPattern(i, 1, 9);
      x.pass(i, 0, 3);
      x.give(2 * i, i, 0);
      x.give(2 * i + 1, i, 1);
    }
    Check.due("held and on the floor", x.juggler(0, 5), 0);
    Check.due("none flies yet", x.juggler(3, 5), 0);
    x.go(1);
    Check.due("four fly", x.juggler(3, 5), 4);
    x.go(1);
    Check.due("eight fly", x.juggler(3, 5), 8);
    Check.due("none to the thrower", x.juggler(0, 5), 0);
    x.go(9);
    Check.due("four have broken", x.juggler(3, 5), 4);
    x.go(1);
    Check.due("and all", x.juggler(3, 5), 0);
  }

  // Promise 9: "6 things that this one caught in all": given is not caught, nor is what fell
  private static void promise9Caught() {
    HammerEggs x = Rings.solo(1, 1, 3, Rings.BALL, 0);
    Check.due("given", x.juggler(0, 6), 0);
    x.go(3);
    Check.due("thrown", x.juggler(0, 6), 0);
    x.go(1);
    Check.due("caught", x.juggler(0, 6), 1);
    x.setPattern(0, 1, 4);
    x.go(3);
    Check.due("caught again", x.juggler(0, 6), 2);
    x.go(4);
    Check.due("fallen", x.thing(0, 6), 1);
    Check.due("caught in all", x.juggler(0, 6), 2);
  }

  private static void promises1To5() {
    promise1AnEmptyRing();
    promise1HalfEmptyRings();
    promise2SkillsOf1To9();
    promise2NoFifthJuggler();
    promise2SkillIsNamedFirst();
    promise3Jugglers();
    promise3LengthsOf1To8();
    promise3AtMostLengthDigits();
    promise3JugglerIsNamedFirst();
    promise3LeadingNoughts();
    promise3AllGoToOneself();
    promise3ThrowsBefore();
    promise4Jugglers();
    promise4Places();
    promise4Others();
    promise4TheOneBefore();
    promise5Jugglers();
    promise5Places();
    promise5What();
  }

  private static void promises6To9() {
    promise6KindsOf0To2();
    promise6No13thThing();
    promise6KindIsNamedFirst();
    promise7ThingsAndJugglers();
    promise7Hands();
    promise7NotOnTheFloor();
    promise7FallenThings();
    promise7FullHands();
    promise7NumbersAreNamedFirst();
    promise7HowManyItHolds();
    promise8Things();
    promise8What();
    promise8WhoseItIs();
    promise8ItsHand();
    promise8ComesDownNext();
    promise8NotInTheAir();
    promise8InAll();
    promise9Jugglers();
    promise9What();
    promise9Hands();
    promise9Throws();
    promise9ThingsThatFly();
    promise9Caught();
  }

  public static void main(String[] args) {
    promises1To5();
    promises6To9();
    Check.end();
  }
}
