import java.util.ArrayList;
import java.util.List;

/**
 * Terms: "A method that throws an exception changes nothing. If several exceptions apply, the one
 * that is named first is thrown." Held in rings from the empty to the full one, for each method
 * with all of its edges at once, those that are taken among them.
 */
public final class RefusedCallsTest {
  private static final int LEAST = Integer.MIN_VALUE;
  private static final int GREATEST = Integer.MAX_VALUE;
  private static final int[] NONE = {0};
  private static final int[] JUGGLERS = {LEAST, -1, 0, 1, 2, 3, 4, GREATEST};
  private static final int[] THINGS = {LEAST, -1, 0, 1, 2, 3, 6, 7, 11, 12, GREATEST};
  private static final int[] PLACES = {LEAST, -1, 0, 1, 2, 3, 4, 5, 7, 8, GREATEST};
  private static final int[] HANDS = {LEAST, -1, 0, 1, 2, GREATEST};
  private static final int[] LENGTHS = {LEAST, -1, 0, 1, 2, 8, 9, GREATEST};
  private static final int[] HEIGHTS =
      {LEAST, -1, 0, 9, 10, 99, 100, 99999999, 100000000, GREATEST};
  private static final int[] SKILLS = {LEAST, -1, 0, 1, 9, 10, GREATEST};
  private static final int[] KINDS = {LEAST, -1, 0, 2, 3, GREATEST};
  private static final int[] BEATS = {LEAST, -1, 0, 1, 60, 61, 200, 201, GREATEST};
  private static final int[] WHATS = {LEAST, -1, 0, 1, 2, 3, 6, 7, 8, 9, GREATEST};

  private static final String[][] RINGS = {
    Rings.EMPTY, Rings.JUGGLERS_ALONE, Rings.THINGS_ALONE, Rings.MIXED, Rings.FULL};
  private static final String[] NAMES = {
    "the empty ring", "jugglers alone", "things alone", "the mixed ring", "the full ring"};

  private static void add(List<String> calls, String name, int[] as, int[] bs, int[] cs) {
    for (int a : as) {
      for (int b : bs) {
        for (int c : cs) {
          calls.add(name + " " + a + " " + b + " " + c);
        }
      }
    }
  }

  private static List<String> edges() {
    List<String> calls = new ArrayList<>();
    add(calls, "come", SKILLS, NONE, NONE);
    add(calls, "setPattern", JUGGLERS, LENGTHS, HEIGHTS);
    add(calls, "pass", JUGGLERS, PLACES, JUGGLERS);
    add(calls, "written", JUGGLERS, PLACES, WHATS);
    add(calls, "make", KINDS, NONE, NONE);
    add(calls, "give", THINGS, JUGGLERS, HANDS);
    add(calls, "thing", THINGS, WHATS, NONE);
    add(calls, "juggler", JUGGLERS, WHATS, NONE);
    add(calls, "lasts", JUGGLERS, NONE, NONE);
    add(calls, "asks", JUGGLERS, NONE, NONE);
    add(calls, "shortest", JUGGLERS, NONE, NONE);
    add(calls, "go", BEATS, NONE, NONE);
    add(calls, "count", WHATS, NONE, NONE);
    add(calls, "falls", NONE, NONE, NONE);
    add(calls, "foresee", BEATS, WHATS, NONE);
    add(calls, "advise", JUGGLERS, BEATS, NONE);
    add(calls, "mean", NONE, NONE, NONE);
    add(calls, "digest", NONE, NONE, NONE);
    return calls;
  }

  // The model tells the answer that is due, the exception's name if the call is refused.
  private static void eachEdgeIsAnsweredAsDue(String[] ring, List<String> calls) {
    for (String call : calls) {
      Calls.playBoth(Rings.played(ring), played(ring), call, "digest", "go 7", "digest");
    }
  }

  private static Model played(String[] ring) {
    Model model = new Model();
    Calls.playBoth(new HammerEggs(), model, ring);
    return model;
  }

  private static List<String> refused(String[] ring, List<String> calls) {
    List<String> found = new ArrayList<>();
    for (String call : calls) {
      if (Calls.answer(played(ring), call).endsWith("Exception")) {
        found.add(call);
      }
    }
    return found;
  }

  // A hundred refused calls, and yet the ring goes on as its twin does, to which none was made.
  private static void refusedCallsChangeNothing(String name, String[] ring, List<String> calls) {
    for (int from = 0; from < calls.size(); from += 100) {
      HammerEggs x = Rings.played(ring);
      int to = Math.min(from + 100, calls.size());
      Calls.playBoth(x, played(ring), calls.subList(from, to).toArray(new String[0]));
      Rings.dueAlikeForLong(name + ", refused calls from " + from, x, Rings.played(ring));
    }
  }

  // The rings are what their names say, or else the tests above would hold less than they tell.
  private static void theRingsAreAsTold() {
    HammerEggs mixed = Rings.played(Rings.MIXED);
    for (int what = 3; what <= 6; what++) {
      Check.holds("the mixed ring's count(" + what + ") is above 0", mixed.count(what) > 0);
    }
    HammerEggs full = Rings.played(Rings.FULL);
    Check.due("the full ring's jugglers", full.count(1), 4);
    Check.due("the full ring's things", full.count(2), 12);
    Check.due("the full ring's full hands", full.count(3), 8);
    Check.due("the full ring's things in the air", full.count(4), 4);
  }

  public static void main(String[] args) {
    theRingsAreAsTold();
    List<String> calls = edges();
    for (int i = 0; i < RINGS.length; i++) {
      eachEdgeIsAnsweredAsDue(RINGS[i], calls);
      refusedCallsChangeNothing(NAMES[i], RINGS[i], refused(RINGS[i], calls));
    }
    Check.end();
  }
}
