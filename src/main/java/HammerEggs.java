/**
 * Jugglers with hammers, eggs and balls.
 *
 * <p>The ring as it is stands in one Ring; what would be is played in a second one, into which the
 * first is copied, so that no call but the constructor makes an object.
 */
public final class HammerEggs {
  private static final int MOST_JUGGLERS = 4;
  private static final int MOST_THINGS = 12;
  private static final int MOST_THROWS = 8;
  private static final int MOST_SKILL = 9;
  private static final int MOST_HEIGHT = 9;
  private static final int MOST_BEATS = 200;
  private static final int MOST_ADVISED_BEATS = 60;
  private static final int HANDS = 2;
  private static final int NONE = -1;

  private static final int KINDS = 3;
  private static final int HAMMER = 1;
  private static final int EGG = 2;

  private static final int ON_FLOOR = 0;
  private static final int IN_HAND = 1;
  private static final int IN_AIR = 2;
  private static final int BROKEN = 3;

  private static final int WRITTEN_ANSWERS = 2;
  private static final int THING_ANSWERS = 7;
  private static final int JUGGLER_ANSWERS = 7;
  private static final int COUNT_ANSWERS = 9;
  private static final int FORESEE_ANSWERS = 3;

  private final Ring now;
  private final Ring trial;

  public HammerEggs() {
    now = new Ring();
    trial = new Ring();
  }

  // ---- jugglers and patterns

  public int come(int skill) throws IllegalArgumentException, IllegalStateException {
    if (skill < 1 || skill > MOST_SKILL) {
      throw new IllegalArgumentException("skill is not 1 to 9");
    }
    if (now.jugglerCount >= MOST_JUGGLERS) {
      throw new IllegalStateException("there are 4 jugglers");
    }
    return now.addJuggler(skill);
  }

  public int setPattern(int juggler, int length, int heights)
      throws IndexOutOfBoundsException, IllegalArgumentException {
    testJuggler(juggler);
    if (length < 1 || length > MOST_THROWS) {
      throw new IllegalArgumentException("length is not 1 to 8");
    }
    if (heights < 0 || heights >= powerOfTen(length)) {
      throw new IllegalArgumentException("heights has not at most length digits");
    }
    Pattern pattern = now.jugglers[juggler].pattern;
    int before = pattern.length;
    pattern.write(juggler, length, heights);
    return before;
  }

  public int pass(int juggler, int place, int to) throws IndexOutOfBoundsException {
    testPlace(juggler, place);
    testJuggler(to);
    Pattern pattern = now.jugglers[juggler].pattern;
    int before = pattern.receivers[place];
    pattern.receivers[place] = to;
    return before;
  }

  public int written(int juggler, int place, int what) throws IndexOutOfBoundsException {
    testPlace(juggler, place);
    testWhat(what, WRITTEN_ANSWERS);
    Pattern pattern = now.jugglers[juggler].pattern;
    return what == 0 ? pattern.heights[place] : pattern.receivers[place];
  }

  // ---- things

  public int make(int kind) throws IllegalArgumentException, IllegalStateException {
    if (kind < 0 || kind >= KINDS) {
      throw new IllegalArgumentException("kind is not 0 to 2");
    }
    if (now.thingCount >= MOST_THINGS) {
      throw new IllegalStateException("there are 12 things");
    }
    return now.addThing(kind);
  }

  public int give(int thing, int juggler, int hand)
      throws IndexOutOfBoundsException, IllegalStateException {
    testThing(thing);
    testJuggler(juggler);
    if (hand < 0 || hand >= HANDS) {
      throw new IndexOutOfBoundsException("hand is not 0 or 1");
    }
    if (now.things[thing].state != ON_FLOOR) {
      throw new IllegalStateException("the thing is not on the floor");
    }
    if (now.jugglers[juggler].hands[hand] != NONE) {
      throw new IllegalStateException("the hand has a thing");
    }
    now.putIntoHand(thing, juggler, hand);
    return now.jugglers[juggler].thingsHeld();
  }

  public int thing(int thing, int what) throws IndexOutOfBoundsException {
    testThing(thing);
    testWhat(what, THING_ANSWERS);
    return now.tellThing(thing, what);
  }

  public int juggler(int juggler, int what) throws IndexOutOfBoundsException {
    testJuggler(juggler);
    testWhat(what, JUGGLER_ANSWERS);
    return now.tellJuggler(juggler, what);
  }

  // ---- patterns alone

  public boolean lasts(int juggler) throws IndexOutOfBoundsException {
    testJuggler(juggler);
    return now.jugglers[juggler].pattern.landsApart();
  }

  public int asks(int juggler) throws IndexOutOfBoundsException {
    testJuggler(juggler);
    return now.jugglers[juggler].pattern.ballsAsked();
  }

  public int shortest(int juggler) throws IndexOutOfBoundsException {
    testJuggler(juggler);
    return now.jugglers[juggler].pattern.shortestLength();
  }

  // ---- beats

  public int go(int beats) throws IllegalArgumentException {
    testBeats(beats, MOST_BEATS);
    return now.play(beats);
  }

  public int count(int what) throws IndexOutOfBoundsException {
    testWhat(what, COUNT_ANSWERS);
    return now.tellCount(what);
  }

  // ---- what would be

  public int falls() {
    trial.copyFrom(now);
    for (int beats = 1; beats <= MOST_BEATS; beats++) {
      if (trial.playBeat() > 0) {
        return beats;
      }
    }
    return NONE;
  }

  public int foresee(int beats, int what)
      throws IllegalArgumentException, IndexOutOfBoundsException {
    testBeats(beats, MOST_BEATS);
    testWhat(what, FORESEE_ANSWERS);
    trial.copyFrom(now);
    int fallen = trial.play(beats);
    switch (what) {
      case 0:
        return trial.thingsIn(IN_AIR);
      case 1:
        return fallen;
      default:
        return trial.allBruises();
    }
  }

  public int advise(int juggler, int beats)
      throws IndexOutOfBoundsException, IllegalArgumentException {
    testJuggler(juggler);
    testBeats(beats, MOST_ADVISED_BEATS);
    trial.copyFrom(now);
    int fewest = trial.play(beats);
    int advice = NONE;
    int length = now.jugglers[juggler].pattern.length;
    // The numbers rise, so that the first one with the fewest is the least of several.
    for (int place = 0; place < length; place++) {
      for (int height = 0; height <= MOST_HEIGHT && fewest > 0; height++) {
        int fallen = fallenWith(juggler, place, height, beats);
        if (fallen < fewest) {
          fewest = fallen;
          advice = 10 * place + height;
        }
      }
    }
    return advice;
  }

  public double mean() {
    if (now.beat == 0) {
      return 0.0;
    }
    return (double) now.allThrown() / (double) now.beat;
  }

  public long digest() {
    long sum = 953L;
    for (int what = 0; what < COUNT_ANSWERS; what++) {
      sum = sum * 31L + now.tellCount(what);
    }
    for (int juggler = 0; juggler < now.jugglerCount; juggler++) {
      for (int what = 0; what < JUGGLER_ANSWERS; what++) {
        sum = sum * 31L + now.tellJuggler(juggler, what);
      }
      sum = now.jugglers[juggler].pattern.addTo(sum);
    }
    for (int thing = 0; thing < now.thingCount; thing++) {
      for (int what = 0; what < THING_ANSWERS; what++) {
        sum = sum * 31L + now.tellThing(thing, what);
      }
    }
    return sum;
  }

  // How many things fall if one throw of the pattern had this height instead.
  private int fallenWith(int juggler, int place, int height, int beats) {
    trial.copyFrom(now);
    trial.jugglers[juggler].pattern.heights[place] = height;
    return trial.play(beats);
  }

  // ---- tests of what callers give

  private void testJuggler(int juggler) {
    if (!now.hasJuggler(juggler)) {
      throw new IndexOutOfBoundsException("there is no such juggler");
    }
  }

  private void testPlace(int juggler, int place) {
    testJuggler(juggler);
    if (place < 0 || place >= now.jugglers[juggler].pattern.length) {
      throw new IndexOutOfBoundsException("there is no such place");
    }
  }

  private void testThing(int thing) {
    if (!now.hasThing(thing)) {
      throw new IndexOutOfBoundsException("there is no such thing");
    }
  }

  private static void testWhat(int what, int answers) {
    if (what < 0 || what >= answers) {
      throw new IndexOutOfBoundsException("what is none of the answers");
    }
  }

  private static void testBeats(int beats, int most) {
    if (beats < 1 || beats > most) {
      throw new IllegalArgumentException("beats is too few or too many");
    }
  }

  private static int powerOfTen(int exponent) {
    int power = 1;
    for (int i = 0; i < exponent; i++) {
      power *= 10;
    }
    return power;
  }

  /** A row of throws; its length is always 1 to 8, which makes it a safe divisor. */
  private static final class Pattern {
    private final int[] heights;
    private final int[] receivers;
    private int length;

    private Pattern() {
      heights = new int[MOST_THROWS];
      receivers = new int[MOST_THROWS];
      length = 1;
    }

    // The length must be 1 to 8, and the digits at most that many.
    private void write(int owner, int newLength, int digits) {
      length = newLength;
      int rest = digits;
      for (int place = length - 1; place >= 0; place--) {
        heights[place] = rest % 10;
        receivers[place] = owner;
        rest /= 10;
      }
    }

    private void copyFrom(Pattern other) {
      length = other.length;
      for (int place = 0; place < length; place++) {
        heights[place] = other.heights[place];
        receivers[place] = other.receivers[place];
      }
    }

    // floorMod, since the beat wraps below 0 if an object is used far beyond its promised calls.
    private int placeIn(int beat) {
      return Math.floorMod(beat, length);
    }

    private boolean landsApart() {
      int landings = 0;
      for (int place = 0; place < length; place++) {
        int landing = 1 << ((place + heights[place]) % length);
        if ((landings & landing) != 0) {
          return false;
        }
        landings |= landing;
      }
      return true;
    }

    private int ballsAsked() {
      int sum = 0;
      for (int place = 0; place < length; place++) {
        sum += heights[place];
      }
      return sum % length == 0 ? sum / length : NONE;
    }

    private int shortestLength() {
      for (int period = 1; period < length; period++) {
        if (length % period == 0 && repeatsAfter(period)) {
          return period;
        }
      }
      return length;
    }

    private boolean repeatsAfter(int period) {
      for (int place = period; place < length; place++) {
        int earlier = place - period;
        if (heights[place] != heights[earlier] || receivers[place] != receivers[earlier]) {
          return false;
        }
      }
      return true;
    }

    private long addTo(long digest) {
      long sum = digest;
      for (int place = 0; place < length; place++) {
        sum = sum * 31L + heights[place];
        sum = sum * 31L + receivers[place];
      }
      return sum;
    }
  }

  private static final class Juggler {
    private final Pattern pattern;
    private final int[] hands;
    private int skill;
    private int bruises;
    private int caught;

    private Juggler() {
      pattern = new Pattern();
      hands = new int[] {NONE, NONE};
    }

    private void copyFrom(Juggler other) {
      pattern.copyFrom(other.pattern);
      for (int hand = 0; hand < HANDS; hand++) {
        hands[hand] = other.hands[hand];
      }
      skill = other.skill;
      bruises = other.bruises;
      caught = other.caught;
    }

    private boolean canCatch(int height, int hand) {
      return hands[hand] == NONE && height <= skill + 2;
    }

    private void miss(Thing thing) {
      if (thing.kind == HAMMER) {
        bruises++;
      }
      thing.fall();
    }

    private int thingsHeld() {
      int held = 0;
      for (int hand = 0; hand < HANDS; hand++) {
        if (hands[hand] != NONE) {
          held++;
        }
      }
      return held;
    }
  }

  private static final class Thing {
    private int kind;
    private int state;
    // Who holds it or to whom it flies.
    private int juggler;
    private int hand;
    // In the air: the beat in which it comes down, and the height with which it was thrown.
    private int due;
    private int height;
    private int thrown;
    private int fell;

    private Thing() {
      state = ON_FLOOR;
      juggler = NONE;
      hand = NONE;
    }

    private void copyFrom(Thing other) {
      kind = other.kind;
      state = other.state;
      juggler = other.juggler;
      hand = other.hand;
      due = other.due;
      height = other.height;
      thrown = other.thrown;
      fell = other.fell;
    }

    private boolean comesDownIn(int beat) {
      return state == IN_AIR && due == beat;
    }

    private int beatsInAir(int thrownHeight) {
      if (kind == HAMMER && thrownHeight >= 3) {
        return thrownHeight - 1;
      }
      if (kind == EGG && thrownHeight >= 5) {
        return thrownHeight + 1;
      }
      return thrownHeight;
    }

    private void fly(int to, int newHeight, int beat) {
      state = IN_AIR;
      juggler = to;
      hand = NONE;
      height = newHeight;
      due = beat + beatsInAir(newHeight);
      thrown++;
    }

    private void fall() {
      state = kind == EGG ? BROKEN : ON_FLOOR;
      juggler = NONE;
      fell++;
    }
  }

  /** All that an object knows; the counts are never greater than the arrays' lengths. */
  private static final class Ring {
    private final Juggler[] jugglers;
    private final Thing[] things;
    private int jugglerCount;
    private int thingCount;
    private int beat;

    private Ring() {
      jugglers = new Juggler[MOST_JUGGLERS];
      for (int i = 0; i < MOST_JUGGLERS; i++) {
        jugglers[i] = new Juggler();
      }
      things = new Thing[MOST_THINGS];
      for (int i = 0; i < MOST_THINGS; i++) {
        things[i] = new Thing();
      }
    }

    private void copyFrom(Ring other) {
      jugglerCount = other.jugglerCount;
      thingCount = other.thingCount;
      beat = other.beat;
      for (int i = 0; i < jugglerCount; i++) {
        jugglers[i].copyFrom(other.jugglers[i]);
      }
      for (int i = 0; i < thingCount; i++) {
        things[i].copyFrom(other.things[i]);
      }
    }

    private boolean hasJuggler(int number) {
      return number >= 0 && number < jugglerCount;
    }

    private boolean hasThing(int number) {
      return number >= 0 && number < thingCount;
    }

    // There must be fewer than 4 jugglers.
    private int addJuggler(int skill) {
      int number = jugglerCount;
      jugglers[number].skill = skill;
      jugglers[number].pattern.write(number, 1, 0);
      jugglerCount++;
      return number;
    }

    // There must be fewer than 12 things.
    private int addThing(int kind) {
      int number = thingCount;
      things[number].kind = kind;
      thingCount++;
      return number;
    }

    private void putIntoHand(int number, int to, int hand) {
      jugglers[to].hands[hand] = number;
      Thing thing = things[number];
      thing.state = IN_HAND;
      thing.juggler = to;
      thing.hand = hand;
    }

    private int play(int beats) {
      int fallen = 0;
      for (int i = 0; i < beats; i++) {
        fallen += playBeat();
      }
      return fallen;
    }

    private int playBeat() {
      int hand = beat & 1;
      int fallen = comeDown(hand);
      for (int i = 0; i < jugglerCount; i++) {
        throwFrom(jugglers[i], hand);
      }
      beat++;
      return fallen;
    }

    private int comeDown(int hand) {
      int fallen = 0;
      for (int i = 0; i < thingCount; i++) {
        Thing thing = things[i];
        int to = thing.juggler;
        if (thing.comesDownIn(beat) && hasJuggler(to)) {
          if (jugglers[to].canCatch(thing.height, hand)) {
            putIntoHand(i, to, hand);
            jugglers[to].caught++;
          } else {
            jugglers[to].miss(thing);
            fallen++;
          }
        }
      }
      return fallen;
    }

    private void throwFrom(Juggler thrower, int hand) {
      int number = thrower.hands[hand];
      int place = thrower.pattern.placeIn(beat);
      int height = thrower.pattern.heights[place];
      if (hasThing(number) && height > 0) {
        things[number].fly(thrower.pattern.receivers[place], height, beat);
        thrower.hands[hand] = NONE;
      }
    }

    private int thingsIn(int state) {
      int found = 0;
      for (int i = 0; i < thingCount; i++) {
        if (things[i].state == state) {
          found++;
        }
      }
      return found;
    }

    private int thingsFlyingTo(int juggler) {
      int found = 0;
      for (int i = 0; i < thingCount; i++) {
        if (things[i].state == IN_AIR && things[i].juggler == juggler) {
          found++;
        }
      }
      return found;
    }

    private int allThrown() {
      int sum = 0;
      for (int i = 0; i < thingCount; i++) {
        sum += things[i].thrown;
      }
      return sum;
    }

    private int allFell() {
      int sum = 0;
      for (int i = 0; i < thingCount; i++) {
        sum += things[i].fell;
      }
      return sum;
    }

    private int allBruises() {
      int sum = 0;
      for (int i = 0; i < jugglerCount; i++) {
        sum += jugglers[i].bruises;
      }
      return sum;
    }

    // The number must be one of a thing; what must be 0 to 6.
    private int tellThing(int number, int what) {
      Thing thing = things[number];
      switch (what) {
        case 0:
          return thing.kind;
        case 1:
          return thing.state;
        case 2:
          return thing.juggler;
        case 3:
          return thing.hand;
        case 4:
          return thing.state == IN_AIR ? thing.due - beat : NONE;
        case 5:
          return thing.thrown;
        default:
          return thing.fell;
      }
    }

    // The number must be one of a juggler; what must be 0 to 6.
    private int tellJuggler(int number, int what) {
      Juggler juggler = jugglers[number];
      switch (what) {
        case 0:
          return juggler.skill;
        case 1:
          return juggler.bruises;
        case 2:
          return juggler.hands[0];
        case 3:
          return juggler.hands[1];
        case 4:
          return juggler.pattern.length;
        case 5:
          return thingsFlyingTo(number);
        default:
          return juggler.caught;
      }
    }

    // What must be 0 to 8.
    private int tellCount(int what) {
      switch (what) {
        case 0:
          return beat;
        case 1:
          return jugglerCount;
        case 2:
          return thingCount;
        case 3:
          return thingsIn(IN_HAND);
        case 4:
          return thingsIn(IN_AIR);
        case 5:
          return thingsIn(ON_FLOOR);
        case 6:
          return thingsIn(BROKEN);
        case 7:
          return allFell();
        default:
          return allThrown();
      }
    }
  }
}
