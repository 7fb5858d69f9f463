import java.math.BigInteger;

/**
 * Promises 10 to 19: each sentence that names a boundary case has a test of its own, which bears
 * the sentence.
 */
public final class EdgesOfPromises10To19Test {
  private static final Class<IndexOutOfBoundsException> INDEX = IndexOutOfBoundsException.class;
  private static final Class<IllegalArgumentException> ARGUMENT = IllegalArgumentException.class;
  private static final int LEAST = Integer.MIN_VALUE;
  private static final int GREATEST = Integer.MAX_VALUE;
  private static final int[] NO_JUGGLERS = {-1, 4, LEAST, GREATEST};

  private static HammerEggs withPattern(int length, int heights) {
    HammerEggs x = Rings.of(5, 5);
    x.setPattern(1, length, heights);
    return x;
  }

  private static void dueLasts(int length, int heights, boolean due) {
    Check.due("lasts of " + heights + " in " + length,
        withPattern(length, heights).lasts(1) ? 1 : 0, due ? 1 : 0);
  }

  // Promise 10: "the place and the height, added, by the remainder of the length"
  private static void promise10RemaindersGoRound() {
    dueLasts(8, 70000009, true);
    dueLasts(8, 9, false);
    dueLasts(8, 1, false);
    dueLasts(8, 70000001, true);
    dueLasts(3, 936, true);
    dueLasts(2, 97, true);
    dueLasts(2, 98, false);
    dueLasts(7, 7000007, true);
    dueLasts(7, 8600000, true);
    dueLasts(7, 8000006, false);
  }

  // Promise 10: "of no two of its throws": neighbours, the first and the last, one alone
  private static void promise10OfNoTwo() {
    for (int height = 0; height <= 9; height++) {
      dueLasts(1, height, true);
    }
    dueLasts(8, 0, true);
    dueLasts(8, 99999999, true);
    dueLasts(8, 10000000, false);
    dueLasts(8, 70000000, false);
    dueLasts(8, 10, false);
    dueLasts(2, 0, true);
    dueLasts(2, 1, false);
    dueLasts(2, 11, true);
  }

  // Promise 10: "to whomever its throws go"
  private static void promise10ToWhomever() {
    HammerEggs x = withPattern(2, 31);
    x.pass(1, 0, 0);
    Check.holds("31, passed, lasts", x.lasts(1));
    x.setPattern(1, 2, 32);
    x.pass(1, 0, 0);
    Check.holds("32, passed, does not last", !x.lasts(1));
  }

  // Promise 10: "Throws IndexOutOfBoundsException if there is no such juggler"
  private static void promise10Jugglers() {
    HammerEggs x = Rings.of(1, 1, 1, 1);
    x.setPattern(3, 2, 1);
    Check.holds("lasts(0)", x.lasts(0));
    Check.holds("not lasts(3)", !x.lasts(3));
    for (int juggler : NO_JUGGLERS) {
      Check.refused(x, "lasts(" + juggler + ")", INDEX, () -> x.lasts(juggler));
    }
    HammerEggs two = Rings.of(1, 1);
    Check.refused(two, "lasts(2) of two", INDEX, () -> two.lasts(2));
  }

  // Promise 11: "all its heights, added, divided by its length; -1 if this is not whole"
  private static void promise11WholeOrNot() {
    for (int length = 1; length <= 8; length++) {
      String what = " in " + length + " throws";
      Check.due("0" + what, withPattern(length, 0).asks(1), 0);
      Check.due("as many" + what, withPattern(length, length).asks(1), 1);
      if (length > 1) {
        Check.due("1" + what, withPattern(length, 1).asks(1), -1);
        Check.due("one less" + what, withPattern(length, length - 1).asks(1), -1);
        Check.due("one more" + what, withPattern(length, length + 1).asks(1), -1);
      }
    }
  }

  // Promise 11: "all its heights": from the first to the last, at most nine balls
  private static void promise11AllHeights() {
    int nines = 0;
    for (int length = 1; length <= 8; length++) {
      nines = nines * 10 + 9;
      Check.due("nines in " + length, withPattern(length, nines).asks(1), 9);
      Check.due("and an 8, last", withPattern(length, nines - 1).asks(1), length == 1 ? 8 : -1);
    }
    Check.due("an 8 first", withPattern(8, 89999999).asks(1), -1);
    Check.due("the first alone", withPattern(8, 80000000).asks(1), 1);
  }

  // Promise 11: "Throws IndexOutOfBoundsException if there is no such juggler"
  private static void promise11Jugglers() {
    HammerEggs x = Rings.of(1, 1, 1, 1);
    x.setPattern(3, 1, 9);
    Check.due("asks(0)", x.asks(0), 0);
    Check.due("asks(3)", x.asks(3), 9);
    for (int juggler : NO_JUGGLERS) {
      Check.refused(x, "asks(" + juggler + ")", INDEX, () -> x.asks(juggler));
    }
    HammerEggs two = Rings.of(1, 1);
    Check.refused(two, "asks(2) of two", INDEX, () -> two.asks(2));
  }

  private static int firstOfEach(int period, int length) {
    int digits = 0;
    for (int place = 0; place < length; place++) {
      digits = digits * 10 + (place % period == 0 ? 1 : 0);
    }
    return digits;
  }

  // Promise 12: "one that divides its length": from 1 to the whole length
  private static void promise12DividesTheLength() {
    for (int length = 1; length <= 8; length++) {
      Check.due("all alike", withPattern(length, 0).shortest(1), 1);
      for (int period = 2; period <= length; period++) {
        int due = length % period == 0 ? period : length;
        Check.due("each " + period + " of " + length,
            withPattern(length, firstOfEach(period, length)).shortest(1), due);
      }
    }
  }

  // Promise 12: "each throw has the height [..] of the one so many throws behind it": the last too
  private static void promise12EachThrow() {
    Check.due("the last one differs", withPattern(8, 55555554).shortest(1), 8);
    Check.due("the first one differs", withPattern(8, 45555555).shortest(1), 8);
    Check.due("the last of the first half", withPattern(8, 12341234).shortest(1), 4);
    Check.due("and not of the second", withPattern(8, 12341235).shortest(1), 8);
    Check.due("the halves of 6", withPattern(6, 112112).shortest(1), 3);
    Check.due("the thirds of 6", withPattern(6, 121212).shortest(1), 2);
    Check.due("neither of 6", withPattern(6, 121213).shortest(1), 6);
  }

  // Promise 12: "and the juggler of the one so many throws behind it"
  private static void promise12TheJugglerToo() {
    HammerEggs x = withPattern(8, 31313131);
    Check.due("all to oneself", x.shortest(1), 2);
    x.pass(1, 7, 0);
    Check.due("the last one passed", x.shortest(1), 8);
    x.pass(1, 3, 0);
    Check.due("the last of each half passed", x.shortest(1), 4);
    x.pass(1, 1, 0);
    x.pass(1, 5, 0);
    Check.due("each second one passed", x.shortest(1), 2);
    x.setPattern(1, 8, 33333333);
    x.pass(1, 0, 0);
    Check.due("the first one passed", x.shortest(1), 8);
  }

  // Promise 12: "Throws IndexOutOfBoundsException if there is no such juggler"
  private static void promise12Jugglers() {
    HammerEggs x = Rings.of(1, 1, 1, 1);
    x.setPattern(3, 8, 1);
    Check.due("shortest(0)", x.shortest(0), 1);
    Check.due("shortest(3)", x.shortest(3), 8);
    for (int juggler : NO_JUGGLERS) {
      Check.refused(x, "shortest(" + juggler + ")", INDEX, () -> x.shortest(juggler));
    }
    HammerEggs two = Rings.of(1, 1);
    Check.refused(two, "shortest(2) of two", INDEX, () -> two.shortest(2));
  }

  // Promise 13: "Throws IllegalArgumentException if beats is not 1 to 200"
  private static void promise13Beats() {
    HammerEggs x = Rings.full();
    int[] wrong = {0, -1, 201, 202, LEAST, GREATEST};
    for (int beats : wrong) {
      Check.refused(x, "go(" + beats + ")", ARGUMENT, () -> x.go(beats));
    }
    x.go(1);
    Check.due("go(1)", x.count(0), 1);
    x.go(200);
    Check.due("go(200)", x.count(0), 201);
  }

  // Promise 13: "Returns how many things fall in them.": from the first of them to the last
  private static void promise13FallInThem() {
    HammerEggs x = Rings.solo(1, 1, 4, Rings.BALL, 0);
    Check.due("ahead of the fall", x.go(4), 0);
    Check.due("in the first of them", x.go(200), 1);
    Check.due("behind the fall", x.go(200), 0);
    HammerEggs last = Rings.solo(1, 1, 4, Rings.BALL, 0);
    Check.due("in the last of them", last.go(5), 1);
    HammerEggs two = Rings.solo(1, 1, 4, Rings.EGG, 0);
    two.make(Rings.HAMMER);
    two.give(1, 0, 1);
    Check.due("two in one beat count twice", two.go(5), 2);
  }

  // Promise 14: "Throws IndexOutOfBoundsException if what is not 0 to 8"
  private static void promise14What() {
    HammerEggs x = Rings.solo(9, 1, 9, Rings.BALL, 0);
    x.go(3);
    Check.due("count(0)", x.count(0), 3);
    Check.due("count(8)", x.count(8), 1);
    int[] wrong = {-1, 9, LEAST, GREATEST};
    for (int what : wrong) {
      Check.refused(x, "count(" + what + ")", INDEX, () -> x.count(what));
    }
  }

  // Promise 14, with Terms: a ring that is full, all things held, all flying, all fallen
  private static void promise14AFullRing() {
    HammerEggs x = Rings.of(1, 1, 1, 1);
    for (int i = 0; i < 12; i++) {
      x.make(i < 8 ? Rings.EGG : Rings.BALL);
    }
    dueCounts(x, 0, 4, 12, 0, 0, 12, 0, 0, 0);
    for (int i = 0; i < 8; i++) {
      x.setPattern(i / 2, 1, 9);
      x.give(i, i / 2, i % 2);
    }
    dueCounts(x, 0, 4, 12, 8, 0, 4, 0, 0, 0);
    x.go(2);
    dueCounts(x, 2, 4, 12, 0, 8, 4, 0, 0, 8);
    for (int i = 8; i < 12; i++) {
      x.give(i, i - 8, 0);
    }
    x.go(1);
    dueCounts(x, 3, 4, 12, 0, 12, 0, 0, 0, 12);
    Check.due("all fall", x.go(200), 12);
    dueCounts(x, 203, 4, 12, 0, 0, 4, 8, 12, 12);
  }

  private static void dueCounts(HammerEggs x, int... answers) {
    for (int what = 0; what < answers.length; what++) {
      Check.due("count(" + what + ")", x.count(what), answers[what]);
    }
  }

  // Promise 15: "Returns behind how many beats the first thing falls"
  private static void promise15TheFirstFall() {
    HammerEggs x = Rings.solo(1, 1, 4, Rings.BALL, 0);
    for (int left = 5; left >= 1; left--) {
      Check.due("beats to the fall", x.falls(), left);
      x.go(1);
    }
    HammerEggs two = Rings.solo(1, 1, 5, Rings.EGG, 0);
    two.make(Rings.HAMMER);
    two.give(1, 0, 1);
    Check.due("the hammer is the first", two.falls(), 6);
    two.go(6);
    Check.due("the egg is in the next beat", two.falls(), 1);
  }

  // Promise 15: "at most 200; -1 if none does by then"
  private static void promise15AtMost200() {
    HammerEggs x = Rings.lateFall();
    x.go(75);
    Check.due("201 beats ahead", x.falls(), -1);
    x.go(1);
    Check.due("200 beats ahead", x.falls(), 200);
    x.go(1);
    Check.due("199 beats ahead", x.falls(), 199);
    x.go(198);
    Check.due("in the next beat", x.falls(), 1);
    Check.due("and so it is", x.go(1), 1);
  }

  // Promise 15: "-1 if none does by then": nobody, nothing, nothing thrown, all caught for ever
  private static void promise15NoneFalls() {
    Check.due("an empty ring", new HammerEggs().falls(), -1);
    Check.due("no things", Rings.of(1, 1, 1, 1).falls(), -1);
    Check.due("held", Rings.solo(1, 1, 0, Rings.EGG, 0).falls(), -1);
    Check.due("caught for ever", Rings.solo(1, 1, 3, Rings.EGG, 0).falls(), -1);
    HammerEggs broken = Rings.solo(1, 1, 4, Rings.EGG, 0);
    broken.go(5);
    Check.due("broken", broken.falls(), -1);
  }

  // Promise 15: "Returns behind how many beats": of a thing that flew already, asked never before
  private static void promise15AlreadyFlying() {
    HammerEggs x = Rings.solo(1, 1, 4, Rings.BALL, 0);
    x.go(1);
    Check.due("too high already", x.falls(), 4);
    HammerEggs y = Rings.solo(1, 1, 3, Rings.BALL, 0);
    y.go(1);
    Check.due("low enough already", y.falls(), -1);
  }

  // Promises 15 to 17, with Terms: a ring that is full, four jugglers and twelve things
  private static void promises15To17AFullRing() {
    HammerEggs x = Rings.played(Rings.FULL);
    int falls = x.falls();
    int[] foreseen = {x.foresee(200, 0), x.foresee(200, 1), x.foresee(200, 2)};
    int advice = x.advise(3, 60);
    Check.due("an advice", advice, Rings.modelled(Rings.FULL, "advise 3 60"));
    Check.due("falls()", falls, Rings.modelled(Rings.FULL, "falls"));
    Check.due("foresee(200, 1)", foreseen[1], x.go(200));
    Check.due("foresee(200, 0)", foreseen[0], x.count(4));
    int bruises = 0;
    for (int juggler = 0; juggler < 4; juggler++) {
      bruises += x.juggler(juggler, 1);
    }
    Check.due("foresee(200, 2)", foreseen[2], bruises);
  }

  // The ring must be the mixed one.
  private static void dueNothingChanged(String what, HammerEggs x, Check.Call call) {
    HammerEggs twin = Rings.played(Rings.MIXED);
    call.run();
    Rings.dueAlikeForLong(what, x, twin);
  }

  // Promise 15: "if nothing is done [..] (nothing is changed)"
  private static void promise15NothingIsChanged() {
    HammerEggs x = Rings.played(Rings.MIXED);
    dueNothingChanged("falls()", x, () -> x.falls());
  }

  // Promise 16: "beats: how many, 1 to 200", "Throws IllegalArgumentException if [it] is not"
  private static void promise16Beats() {
    HammerEggs x = Rings.lateFall();
    x.go(76);
    int[] wrong = {0, -1, 201, 202, LEAST, GREATEST};
    for (int beats : wrong) {
      for (int what = 0; what <= 2; what++) {
        int w = what;
        Check.refused(x, "foresee(" + beats + ", " + w + ")", ARGUMENT, () -> x.foresee(beats, w));
      }
    }
    Check.due("foresee(1, 1)", x.foresee(1, 1), 0);
    Check.due("foresee(199, 1)", x.foresee(199, 1), 0);
    Check.due("foresee(200, 1)", x.foresee(200, 1), 1);
    x.go(199);
    Check.due("foresee(1, 1) ahead of the fall", x.foresee(1, 1), 1);
  }

  // Promise 16: "Throws IndexOutOfBoundsException if what is not 0 to 2"
  private static void promise16What() {
    HammerEggs x = Rings.solo(1, 1, 4, Rings.HAMMER, 0);
    int[] wrong = {-1, 3, LEAST, GREATEST};
    for (int what : wrong) {
      Check.refused(x, "foresee(1, " + what + ")", INDEX, () -> x.foresee(1, what));
      Check.refused(x, "foresee(200, " + what + ")", INDEX, () -> x.foresee(200, what));
    }
    Check.due("foresee(1, 0)", x.foresee(1, 0), 1);
    Check.due("foresee(4, 2)", x.foresee(4, 2), 1);
  }

  // Promise 16, with Terms: "the one that is named first is thrown"
  private static void promise16BeatsAreNamedFirst() {
    HammerEggs x = Rings.full();
    int[] wrongBeats = {0, 201, LEAST, GREATEST};
    int[] wrongWhats = {-1, 3, LEAST, GREATEST};
    for (int beats : wrongBeats) {
      for (int what : wrongWhats) {
        Check.refused(x, "foresee(" + beats + ", " + what + ")", ARGUMENT,
            () -> x.foresee(beats, what));
      }
    }
  }

  // Promise 16: "0 things in the air then"
  private static void promise16InTheAirThen() {
    HammerEggs x = Rings.solo(1, 1, 4, Rings.BALL, 0);
    Check.due("from the first beat on", x.foresee(1, 0), 1);
    Check.due("to the one ahead of the fall", x.foresee(4, 0), 1);
    Check.due("fallen", x.foresee(5, 0), 0);
    HammerEggs other = Rings.solo(1, 1, 4, Rings.BALL, 1);
    Check.due("the other hand, not yet", other.foresee(1, 0), 0);
    Check.due("the other hand", other.foresee(2, 0), 1);
  }

  // Promise 16: "1 how often things fall in them": not ahead of them, nor behind
  private static void promise16FallInThem() {
    HammerEggs x = Rings.solo(1, 1, 4, Rings.BALL, 0);
    x.make(Rings.BALL);
    x.give(1, 0, 1);
    Check.due("none yet", x.foresee(4, 1), 0);
    Check.due("one in the last of them", x.foresee(5, 1), 1);
    Check.due("both", x.foresee(6, 1), 2);
    x.go(5);
    Check.due("one in the first of them", x.foresee(1, 1), 1);
    x.go(1);
    Check.due("those of before are not counted", x.foresee(200, 1), 0);
  }

  // Promise 16: "2 bruises of all then": with those of before, of all jugglers
  private static void promise16BruisesOfAllThen() {
    HammerEggs x = Rings.of(1, 1, 1, 1);
    for (int i = 0; i < 4; i++) {
      x.setPattern(i, 1, 4);
      x.make(Rings.HAMMER);
      x.give(i, i, i % 2);
    }
    Check.due("none yet", x.foresee(3, 2), 0);
    Check.due("two", x.foresee(4, 2), 2);
    Check.due("of all", x.foresee(5, 2), 4);
    x.go(5);
    Check.due("with those of before", x.foresee(1, 2), 4);
    Check.due("no more of them", x.foresee(200, 2), 4);
  }

  // Promise 16: "if nothing is done (nothing is changed)"
  private static void promise16NothingIsChanged() {
    for (int what = 0; what <= 2; what++) {
      int w = what;
      HammerEggs one = Rings.played(Rings.MIXED);
      dueNothingChanged("foresee(1, " + w + ")", one, () -> one.foresee(1, w));
      HammerEggs most = Rings.played(Rings.MIXED);
      dueNothingChanged("foresee(200, " + w + ")", most, () -> most.foresee(200, w));
    }
  }

  /**
   * One ball that goes from juggler to juggler, is held by each for long, and falls in the beat 63.
   * A throw of 1 at the place 1 keeps it with the juggler 0.
   */
  private static HammerEggs chain() {
    HammerEggs x = Rings.of(9, 9, 9, 1);
    for (int i = 0; i < 4; i++) {
      x.setPattern(i, 7, 90);
      x.pass(i, 5, i < 3 ? i + 1 : 3);
    }
    x.make(Rings.BALL);
    x.give(0, 0, 0);
    return x;
  }

  // Promise 17: "Throws IllegalArgumentException if beats is not 1 to 60"
  private static void promise17Beats() {
    HammerEggs x = chain();
    int[] wrong = {0, -1, 61, 62, 200, 201, LEAST, GREATEST};
    for (int beats : wrong) {
      Check.refused(x, "advise(0, " + beats + ")", ARGUMENT, () -> x.advise(0, beats));
    }
    Check.due("the fall is in the 64th beat", x.falls(), 64);
    x.go(3);
    Check.due("61 beats ahead, advise(0, 60)", x.advise(0, 60), -1);
    x.go(1);
    Check.due("60 beats ahead, advise(0, 59)", x.advise(0, 59), -1);
    Check.due("60 beats ahead, advise(0, 60)", x.advise(0, 60), 11);
    HammerEggs hand = Rings.of(1, 9);
    hand.setPattern(1, 1, 1);
    hand.pass(1, 0, 0);
    hand.make(Rings.BALL);
    hand.make(Rings.BALL);
    hand.give(0, 1, 0);
    hand.give(1, 0, 1);
    Check.due("a beat ahead, advise(1, 1)", hand.advise(1, 1), -1);
    Check.due("a beat ahead, advise(1, 2)", hand.advise(1, 2), 0);
    hand.go(1);
    Check.due("too late, advise(1, 1)", hand.advise(1, 1), -1);
    Check.due("it falls in this one beat", hand.go(1), 1);
  }

  // Promise 17: "Throws IndexOutOfBoundsException if there is no such juggler"
  private static void promise17Jugglers() {
    HammerEggs x = chain();
    x.go(4);
    for (int juggler : NO_JUGGLERS) {
      Check.refused(x, "advise(" + juggler + ", 1)", INDEX, () -> x.advise(juggler, 1));
      Check.refused(x, "advise(" + juggler + ", 60)", INDEX, () -> x.advise(juggler, 60));
    }
    Check.due("advise(0, 60)", x.advise(0, 60), 11);
    Check.due("advise(3, 60)", x.advise(3, 60), -1);
    HammerEggs two = Rings.of(1, 1);
    Check.refused(two, "advise(2, 1) of two", INDEX, () -> two.advise(2, 1));
    HammerEggs none = new HammerEggs();
    Check.refused(none, "advise(0, 1) of none", INDEX, () -> none.advise(0, 1));
  }

  // Promise 17, with Terms: "the one that is named first is thrown"
  private static void promise17JugglerIsNamedFirst() {
    HammerEggs x = chain();
    int[] wrongBeats = {0, -1, 61, LEAST, GREATEST};
    for (int juggler : NO_JUGGLERS) {
      for (int beats : wrongBeats) {
        Check.refused(x, "advise(" + juggler + ", " + beats + ")", INDEX,
            () -> x.advise(juggler, beats));
      }
    }
  }

  // Promise 17: "10 * the place of the throw + its height, of several the least number"
  private static void promise17TheLeastNumber() {
    Check.due("all but 4 help: 0", Rings.solo(1, 1, 4, Rings.BALL, 0).advise(0, 5), 0);
    HammerEggs held = Rings.of(1, 9);
    held.setPattern(1, 1, 2);
    held.pass(1, 0, 0);
    held.make(Rings.BALL);
    held.make(Rings.BALL);
    held.give(0, 0, 0);
    held.give(1, 1, 0);
    Check.due("1 throws on to oneself, and falls upon the other: 3", held.advise(0, 3), 3);
    HammerEggs places = Rings.solo(1, 8, 4, Rings.BALL, 1);
    Check.due("a throw of 1 ahead of the place 7: 11", places.advise(0, 12), 11);
  }

  // Promise 17: "10 * the place of the throw + its height": the greatest of all, 79
  private static void promise17TheGreatestNumber() {
    HammerEggs x = Rings.of(1, 9);
    x.setPattern(0, 8, 0);
    x.setPattern(1, 1, 2);
    x.pass(1, 0, 0);
    x.make(Rings.HAMMER);
    x.make(Rings.BALL);
    x.make(Rings.EGG);
    x.go(7);
    x.give(0, 0, 1);
    x.give(1, 1, 1);
    x.give(2, 0, 0);
    // The ball comes to the hammer's hand in the beat 9; thrown with a 9, it is up to the beat 15.
    Check.due("up to the beat 8", x.advise(0, 2), -1);
    Check.due("up to the beat 14", x.advise(0, 8), 79);
    Check.due("up to the beat 15", x.advise(0, 9), -1);
  }

  // Promise 17: "so that the fewest things fall": not only fewer
  private static void promise17TheFewest() {
    HammerEggs x = Rings.of(1, 9);
    x.setPattern(0, 1, 4);
    x.setPattern(1, 1, 2);
    x.pass(1, 0, 0);
    x.make(Rings.BALL);
    x.make(Rings.BALL);
    x.give(0, 0, 0);
    x.give(1, 1, 0);
    Check.due("two fall", x.foresee(7, 1), 2);
    Check.due("by 0 one falls, by 3 none", x.advise(0, 7), 3);
  }

  // Promise 17: "-1 if no fewer fall by any"
  private static void promise17NoFewer() {
    Check.due("none falls", Rings.solo(1, 1, 3, Rings.BALL, 0).advise(0, 60), -1);
    HammerEggs flying = Rings.solo(1, 1, 4, Rings.BALL, 0);
    flying.go(1);
    Check.due("as many fall by all", flying.advise(0, 60), -1);
    Check.due("a juggler without things", Rings.of(1).advise(0, 60), -1);
    HammerEggs other = Rings.solo(1, 1, 4, Rings.BALL, 0);
    other.come(9);
    Check.due("the other's throw falls", other.advise(1, 60), -1);
    Check.due("one's own does", other.advise(0, 60), 0);
  }

  // Promise 17: "(nothing is changed)"
  private static void promise17NothingIsChanged() {
    int[] beats = {1, 60};
    for (int n : beats) {
      for (int i = 0; i < 2; i++) {
        int juggler = i;
        HammerEggs x = Rings.played(Rings.MIXED);
        dueNothingChanged("advise(" + i + ", " + n + ")", x, () -> x.advise(juggler, n));
      }
    }
  }

  // Promise 18: "divided by the beats that went by; 0 if none did"
  private static void promise18NoBeats() {
    Check.holds("an empty ring: 0.0", Double.compare(new HammerEggs().mean(), 0.0) == 0);
    HammerEggs x = Rings.solo(9, 1, 1, Rings.BALL, 0);
    Check.holds("no beat went by: 0.0", Double.compare(x.mean(), 0.0) == 0);
    x.go(1);
    Check.due("one did", x.mean(), 1.0);
  }

  // Promise 18: "how often things were thrown in all": 0, more often than beats, no whole number
  private static void promise18ThrownInAll() {
    HammerEggs idle = Rings.solo(9, 1, 0, Rings.BALL, 0);
    idle.go(200);
    Check.holds("never thrown: 0.0", Double.compare(idle.mean(), 0.0) == 0);
    HammerEggs busy = Rings.of(9, 9, 9, 9);
    for (int i = 0; i < 4; i++) {
      busy.setPattern(i, 1, 1);
      busy.make(Rings.BALL);
      busy.give(i, i, 0);
    }
    busy.go(200);
    Check.due("four in each beat", busy.mean(), 4.0);
    HammerEggs third = Rings.solo(9, 1, 9, Rings.BALL, 0);
    third.go(3);
    Check.due("one in three", third.mean(), 1.0 / 3.0);
  }

  private static BigInteger next(BigInteger d, int x) {
    return d.multiply(BigInteger.valueOf(31)).add(BigInteger.valueOf(x));
  }

  /** The sum as it grows without an end; its last 64 bits are the digest. */
  private static BigInteger sumOf(HammerEggs x) {
    BigInteger d = BigInteger.valueOf(953);
    for (int what = 0; what <= 8; what++) {
      d = next(d, x.count(what));
    }
    for (int juggler = 0; juggler < x.count(1); juggler++) {
      for (int what = 0; what <= 6; what++) {
        d = next(d, x.juggler(juggler, what));
      }
      for (int place = 0; place < x.juggler(juggler, 4); place++) {
        d = next(next(d, x.written(juggler, place, 0)), x.written(juggler, place, 1));
      }
    }
    for (int thing = 0; thing < x.count(2); thing++) {
      for (int what = 0; what <= 6; what++) {
        d = next(d, x.thing(thing, what));
      }
    }
    return d;
  }

  private static void dueDigest(String what, HammerEggs x) {
    Check.due("digest of " + what, x.digest(), sumOf(x).longValue());
  }

  // Promise 19: "A number d starts with 953", with nobody and nothing to follow what count() tells
  private static void promise19AnEmptyRing() {
    HammerEggs x = new HammerEggs();
    Check.holds("no wrap yet", sumOf(x).bitLength() < 64);
    dueDigest("an empty ring", x);
    x.go(200);
    dueDigest("an empty ring, 200 beats on", x);
  }

  // Promise 19: "which wraps around as a 64-bit integer"
  private static void promise19WrapsAround() {
    boolean below0 = false;
    boolean above0 = false;
    for (int skill = 1; skill <= 9; skill++) {
      HammerEggs x = Rings.of(skill);
      x.make(Rings.EGG);
      Check.holds("it wraps", sumOf(x).bitLength() > 64);
      dueDigest("a wrap, skill " + skill, x);
      x.setPattern(0, 8, 12345678);
      dueDigest("a longer wrap, skill " + skill, x);
      below0 |= x.digest() < 0;
      above0 |= x.digest() > 0;
    }
    Check.holds("to below 0 and above", below0 && above0);
  }

  // Promise 19: "for each juggler [..] for each throw of the pattern [..] for each thing"
  private static void promise19NoneOneAndAll() {
    dueDigest("one juggler", Rings.of(9));
    dueDigest("four jugglers", Rings.of(9, 8, 7, 1));
    for (int count = 1; count <= 12; count++) {
      HammerEggs things = new HammerEggs();
      for (int i = 0; i < count; i++) {
        things.make(2 - i % 3);
      }
      dueDigest("things alone", things);
    }
    // A new ring for each, since the sum asks a full one some 250 times.
    dueDigest("a full ring", Rings.full());
    HammerEggs flying = Rings.full();
    flying.go(7);
    dueDigest("a full ring, things flying", flying);
    HammerEggs fallen = Rings.full();
    fallen.go(200);
    dueDigest("a full ring, things fallen", fallen);
  }

  private static void promises10To14() {
    promise10RemaindersGoRound();
    promise10OfNoTwo();
    promise10ToWhomever();
    promise10Jugglers();
    promise11WholeOrNot();
    promise11AllHeights();
    promise11Jugglers();
    promise12DividesTheLength();
    promise12EachThrow();
    promise12TheJugglerToo();
    promise12Jugglers();
    promise13Beats();
    promise13FallInThem();
    promise14What();
    promise14AFullRing();
  }

  private static void promises15To19() {
    promise15TheFirstFall();
    promise15AtMost200();
    promise15NoneFalls();
    promise15AlreadyFlying();
    promises15To17AFullRing();
    promise15NothingIsChanged();
    promise16Beats();
    promise16What();
    promise16BeatsAreNamedFirst();
    promise16InTheAirThen();
    promise16FallInThem();
    promise16BruisesOfAllThen();
    promise16NothingIsChanged();
    promise17Beats();
    promise17Jugglers();
    promise17JugglerIsNamedFirst();
    promise17TheLeastNumber();
    promise17TheGreatestNumber();
    promise17TheFewest();
    promise17NoFewer();
    promise17NothingIsChanged();
    promise18NoBeats();
    promise18ThrownInAll();
    promise19AnEmptyRing();
    promise19WrapsAround();
    promise19NoneOneAndAll();
  }

  public static void main(String[] args) {
    promises10To14();
    promises15To19();
    Check.end();
  }
}
