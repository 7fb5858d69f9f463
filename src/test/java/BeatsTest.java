/** Promises 13 and 14: go and count, with the rules of a beat. */
public final class BeatsTest {
  private static final Class<IndexOutOfBoundsException> INDEX = IndexOutOfBoundsException.class;
  private static final Class<IllegalArgumentException> ARGUMENT = IllegalArgumentException.class;
  private static final int BALL = 0;
  private static final int HAMMER = 1;
  private static final int EGG = 2;

  private static HammerEggs withJugglers(int... skills) {
    HammerEggs x = new HammerEggs();
    for (int skill : skills) {
      x.come(skill);
    }
    return x;
  }

  private static void dueCounts(HammerEggs x, int... answers) {
    for (int what = 0; what < answers.length; what++) {
      Check.due("count(" + what + ")", x.count(what), answers[what]);
    }
  }

  private static void promise13Refusals() {
    HammerEggs x = withJugglers(5);
    int[] wrong = {0, -1, 201, Integer.MIN_VALUE, Integer.MAX_VALUE};
    for (int beats : wrong) {
      Check.refused(x, "go(" + beats + ")", ARGUMENT, () -> x.go(beats));
    }
    Check.due("go(200)", x.go(200), 0);
    Check.due("go(1)", x.go(1), 0);
    Check.due("count(0)", x.count(0), 201);
  }

  private static int airTime(int kind, int height) {
    HammerEggs x = withJugglers(9);
    x.setPattern(0, 1, height);
    x.make(kind);
    x.give(0, 0, 0);
    x.go(1);
    return x.thing(0, 4) + 1;
  }

  private static void promise13AirTimes() {
    int[] balls = {1, 2, 3, 4, 5, 6, 7, 8, 9};
    int[] hammers = {1, 2, 2, 3, 4, 5, 6, 7, 8};
    int[] eggs = {1, 2, 3, 4, 6, 7, 8, 9, 10};
    for (int height = 1; height <= 9; height++) {
      Check.due("ball at " + height, airTime(BALL, height), balls[height - 1]);
      Check.due("hammer at " + height, airTime(HAMMER, height), hammers[height - 1]);
      Check.due("egg at " + height, airTime(EGG, height), eggs[height - 1]);
    }
    Check.due("height 0 is held", airTime(BALL, 0), 0);
  }

  private static void promise13HandsAndPlaces() {
    HammerEggs x = withJugglers(9);
    x.setPattern(0, 3, 405);
    x.make(BALL);
    x.give(0, 0, 1);
    x.go(1);
    Check.due("hand 1 rests in the beat 0", x.thing(0, 1), 1);
    x.go(1);
    Check.due("a throw of 0 in the beat 1", x.thing(0, 1), 1);
    x.go(1);
    Check.due("hand 1 rests in the beat 2", x.thing(0, 1), 1);
    x.go(1);
    Check.due("the place 0 in the beat 3", x.thing(0, 4), 3);
    x.go(3);
    Check.due("still in the air", x.thing(0, 4), 0);
    x.go(1);
    Check.due("caught in the hand 1 in the beat 7, with a 0", x.juggler(0, 3), 0);
    x.go(1);
    Check.due("hand 1 rests in the beat 8", x.juggler(0, 3), 0);
    x.go(1);
    Check.due("the place 0 in the beat 9", x.thing(0, 4), 3);
    x.setPattern(0, 4, 7000);
    x.go(4);
    Check.due("caught in the beat 13: the place 1", x.juggler(0, 3), 0);
  }

  private static int fallsAt(int skill, int height) {
    HammerEggs x = withJugglers(skill);
    x.setPattern(0, 8, height * 10000000);
    x.make(BALL);
    x.give(0, 0, 0);
    return x.go(height + 1);
  }

  private static void promise13TooHigh() {
    for (int skill = 1; skill <= 9; skill++) {
      for (int height = 1; height <= 9; height++) {
        Check.due("skill " + skill + ", height " + height,
            fallsAt(skill, height), height > skill + 2 ? 1 : 0);
      }
    }
    // A hammer's height counts, not its beats: 4 is 3 beats long and too high for the skill 1.
    HammerEggs x = withJugglers(1);
    x.setPattern(0, 1, 4);
    x.make(HAMMER);
    x.give(0, 0, 0);
    Check.due("the hammer falls", x.go(4), 1);
    Check.due("the bruise", x.juggler(0, 1), 1);
  }

  private static void promise13SkillOfTheCatcher() {
    HammerEggs x = withJugglers(1, 9);
    x.setPattern(0, 1, 8);
    x.setPattern(1, 1, 0);
    x.pass(0, 0, 1);
    x.make(BALL);
    x.give(0, 0, 0);
    Check.due("the better one catches", x.go(9), 0);
    ThingsTest.dueThing(x, 0, BALL, 1, 1, 0, -1, 1, 0);
    x.setPattern(1, 1, 8);
    x.pass(1, 0, 0);
    Check.due("the worse one does not", x.go(10), 1);
    ThingsTest.dueThing(x, 0, BALL, 0, -1, -1, -1, 2, 1);
  }

  private static void promise13FullHand() {
    HammerEggs x = withJugglers(9, 3);
    x.setPattern(0, 1, 2);
    x.pass(0, 0, 1);
    x.make(BALL);
    x.make(HAMMER);
    x.make(EGG);
    x.give(0, 1, 0);
    x.give(1, 0, 0);
    x.give(2, 0, 1);
    Check.due("the hammer falls on the full hand", x.go(3), 1);
    ThingsTest.dueThing(x, 1, HAMMER, 0, -1, -1, -1, 1, 1);
    ThingsTest.dueJuggler(x, 0, 9, 0, -1, -1, 1, 0, 0);
    ThingsTest.dueJuggler(x, 1, 3, 1, 0, -1, 1, 1, 0);
    Check.due("the egg is caught by the empty one", x.go(1), 0);
    ThingsTest.dueJuggler(x, 1, 3, 1, 0, 2, 1, 0, 1);
    x.give(1, 0, 1);
    Check.due("the hammer on the egg", x.go(4), 1);
    ThingsTest.dueJuggler(x, 1, 3, 2, 0, 2, 1, 0, 1);
    Check.due("a fallen hammer is not broken", x.thing(1, 1), 0);
  }

  private static void promise13EggsBreak() {
    HammerEggs x = withJugglers(1);
    x.setPattern(0, 1, 4);
    x.make(EGG);
    x.give(0, 0, 0);
    Check.due("before", x.go(4), 0);
    Check.due("the egg falls", x.go(1), 1);
    ThingsTest.dueThing(x, 0, EGG, 3, -1, -1, -1, 1, 1);
    Check.due("no bruise by an egg", x.juggler(0, 1), 0);
    Check.due("it stays broken", x.go(200), 0);
    Check.due("count(6)", x.count(6), 1);
    x.make(BALL);
    x.give(1, 0, 0);
    x.go(10);
    Check.due("no bruise by a ball", x.juggler(0, 1), 0);
    Check.due("the ball fell", x.thing(1, 6), 1);
  }

  private static void promise13ByNumbers() {
    // Both balls come to the hand 0 of the juggler 2 in the beat 2: the lower number is caught.
    HammerEggs x = withJugglers(9, 9, 9);
    x.setPattern(0, 1, 2);
    x.setPattern(1, 1, 2);
    x.pass(0, 0, 2);
    x.pass(1, 0, 2);
    x.make(HAMMER);
    x.make(BALL);
    x.give(1, 0, 0);
    x.give(0, 1, 0);
    Check.due("the second one falls", x.go(3), 1);
    Check.due("the number 0 is caught", x.juggler(2, 2), 0);
    Check.due("the number 1 is on the floor", x.thing(1, 1), 0);
    Check.due("no bruise by the ball", x.juggler(2, 1), 0);
  }

  private static void promise13ComingDownComesFirst() {
    // What is caught is thrown in the same beat, and a hand still full then lets the next fall.
    HammerEggs x = withJugglers(9);
    x.setPattern(0, 1, 3);
    for (int i = 0; i < 3; i++) {
      x.make(BALL);
    }
    x.give(0, 0, 0);
    x.give(1, 0, 1);
    x.go(2);
    x.give(2, 0, 0);
    Check.due("three balls go on", x.go(200), 0);
    Check.due("all of them fly", x.count(4), 3);
    Check.due("a throw in each beat", x.count(8), 202);
    Check.due("caught", x.juggler(0, 6), 199);
    x.make(BALL);
    x.give(3, 0, 0);
    Check.due("a fourth makes one fall", x.go(1), 1);
    Check.due("the one that came", x.thing(3, 6), 0);
    Check.due("three fly", x.count(4), 3);
  }

  private static void promise14Count() {
    HammerEggs x = withJugglers(1, 9);
    dueCounts(x, 0, 2, 0, 0, 0, 0, 0, 0, 0);
    int[] kinds = {BALL, HAMMER, EGG, EGG, BALL};
    for (int kind : kinds) {
      x.make(kind);
    }
    dueCounts(x, 0, 2, 5, 0, 0, 5, 0, 0, 0);
    x.setPattern(0, 1, 4);
    x.setPattern(1, 2, 50);
    x.give(0, 1, 0);
    x.give(1, 1, 1);
    x.give(2, 0, 0);
    x.give(3, 0, 1);
    dueCounts(x, 0, 2, 5, 4, 0, 1, 0, 0, 0);
    Check.due("go(2)", x.go(2), 0);
    dueCounts(x, 2, 2, 5, 1, 3, 1, 0, 0, 3);
    Check.due("go(3)", x.go(3), 1);
    dueCounts(x, 5, 2, 5, 1, 2, 1, 1, 1, 3);
    Check.due("go(1)", x.go(1), 2);
    dueCounts(x, 6, 2, 5, 1, 0, 2, 2, 3, 3);
    int[] wrong = {-1, 9, Integer.MIN_VALUE, Integer.MAX_VALUE};
    for (int what : wrong) {
      Check.refused(x, "count(" + what + ")", INDEX, () -> x.count(what));
    }
  }

  public static void main(String[] args) {
    promise13Refusals();
    promise13AirTimes();
    promise13HandsAndPlaces();
    promise13TooHigh();
    promise13SkillOfTheCatcher();
    promise13FullHand();
    promise13EggsBreak();
    promise13ByNumbers();
    promise13ComingDownComesFirst();
    promise14Count();
    Check.end();
  }
}
