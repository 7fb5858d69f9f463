import java.util.ArrayList;
import java.util.List;
import java.util.Map;
import java.util.TreeMap;

/**
 * The document once more, held otherwise than in the class: hands as a map, patterns as texts,
 * flights as a list. Speed and room do not matter here; a copy is made for all that would be.
 */
final class Model {
  private static final String INDEX = "IndexOutOfBoundsException";
  private static final String ARGUMENT = "IllegalArgumentException";
  private static final String STATE = "IllegalStateException";

  private record Flight(int thing, int to, int lands, int height) {}

  private final List<Integer> skills = new ArrayList<>();
  private final List<String> heights = new ArrayList<>();
  private final List<String> receivers = new ArrayList<>();
  private final List<Integer> kinds = new ArrayList<>();
  private final Map<Integer, Integer> hands = new TreeMap<>();
  private final List<Flight> flights = new ArrayList<>();
  private final List<Integer> throwsMade = new ArrayList<>();
  private final List<Integer> catches = new ArrayList<>();
  private final List<Integer> drops = new ArrayList<>();
  private final List<Integer> bruises = new ArrayList<>();
  private int beat = 0;

  private Model copy() {
    Model m = new Model();
    m.skills.addAll(skills);
    m.heights.addAll(heights);
    m.receivers.addAll(receivers);
    m.kinds.addAll(kinds);
    m.hands.putAll(hands);
    m.flights.addAll(flights);
    m.throwsMade.addAll(throwsMade);
    m.catches.addAll(catches);
    m.drops.addAll(drops);
    m.bruises.addAll(bruises);
    m.beat = beat;
    return m;
  }

  /** The answer due to a call, or the name of the exception. */
  String answer(String call, int a, int b, int c) {
    switch (call) {
      case "come": return come(a);
      case "setPattern": return setPattern(a, b, c);
      case "pass": return pass(a, b, c);
      case "written": return written(a, b, c);
      case "make": return make(a);
      case "give": return give(a, b, c);
      case "thing": return out(a, kinds.size()) || out(b, 7) ? INDEX : "" + thing(a, b);
      case "juggler": return out(a, skills.size()) || out(b, 7) ? INDEX : "" + juggler(a, b);
      case "lasts": return out(a, skills.size()) ? INDEX : "" + lasts(heights.get(a));
      case "asks": return out(a, skills.size()) ? INDEX : "" + asks(heights.get(a));
      case "shortest": return out(a, skills.size()) ? INDEX : "" + shortest(a);
      case "go": return out(a - 1, 200) ? ARGUMENT : "" + go(a);
      case "count": return out(a, 9) ? INDEX : "" + count(a);
      case "falls": return "" + falls();
      case "foresee": return out(a - 1, 200) ? ARGUMENT : out(b, 3) ? INDEX : "" + foresee(a, b);
      case "advise":
        return out(a, skills.size()) ? INDEX : out(b - 1, 60) ? ARGUMENT : "" + advise(a, b);
      case "mean": return "" + (beat == 0 ? 0.0 : 1.0 * throwsMade.size() / beat);
      case "digest": return "" + digest();
      default: throw new IllegalStateException(call);
    }
  }

  private static boolean out(int index, int size) {
    return index < 0 || index >= size;
  }

  private String come(int skill) {
    if (out(skill - 1, 9)) {
      return ARGUMENT;
    }
    if (skills.size() == 4) {
      return STATE;
    }
    heights.add("0");
    receivers.add("" + skills.size());
    skills.add(skill);
    return "" + (skills.size() - 1);
  }

  private String setPattern(int juggler, int length, int digits) {
    if (out(juggler, skills.size())) {
      return INDEX;
    }
    if (out(length - 1, 8) || digits < 0 || ("" + digits).length() > length) {
      return ARGUMENT;
    }
    receivers.set(juggler, ("" + juggler).repeat(length));
    String row = "0".repeat(length - ("" + digits).length()) + digits;
    return "" + heights.set(juggler, row).length();
  }

  private String pass(int juggler, int place, int to) {
    if (out(juggler, skills.size()) || out(place, heights.get(juggler).length())
        || out(to, skills.size())) {
      return INDEX;
    }
    String row = receivers.get(juggler);
    receivers.set(juggler, row.substring(0, place) + to + row.substring(place + 1));
    return row.substring(place, place + 1);
  }

  private String written(int juggler, int place, int what) {
    if (out(juggler, skills.size()) || out(place, heights.get(juggler).length()) || out(what, 2)) {
      return INDEX;
    }
    return (what == 0 ? heights : receivers).get(juggler).substring(place, place + 1);
  }

  private String make(int kind) {
    if (out(kind, 3)) {
      return ARGUMENT;
    }
    if (kinds.size() == 12) {
      return STATE;
    }
    kinds.add(kind);
    return "" + (kinds.size() - 1);
  }

  private String give(int thing, int juggler, int hand) {
    if (out(thing, kinds.size()) || out(juggler, skills.size()) || out(hand, 2)) {
      return INDEX;
    }
    if (state(thing) != 0 || hands.containsKey(juggler * 2 + hand)) {
      return STATE;
    }
    hands.put(juggler * 2 + hand, thing);
    return "" + (hands.containsKey(juggler * 2 + 1 - hand) ? 2 : 1);
  }

  private static int times(List<Integer> list, int number) {
    return (int) list.stream().filter(n -> n == number).count();
  }

  private Flight flight(int thing) {
    return flights.stream().filter(f -> f.thing == thing).findAny().orElse(null);
  }

  private int state(int thing) {
    if (hands.containsValue(thing)) {
      return 1;
    }
    if (flight(thing) != null) {
      return 2;
    }
    return kinds.get(thing) == 2 && drops.contains(thing) ? 3 : 0;
  }

  private int thing(int thing, int what) {
    Flight flight = flight(thing);
    int slot = -1;
    for (Map.Entry<Integer, Integer> e : hands.entrySet()) {
      slot = e.getValue() == thing ? e.getKey() : slot;
    }
    switch (what) {
      case 0: return kinds.get(thing);
      case 1: return state(thing);
      case 2: return slot >= 0 ? slot / 2 : flight != null ? flight.to : -1;
      case 3: return slot >= 0 ? slot % 2 : -1;
      case 4: return flight != null ? flight.lands - beat : -1;
      case 5: return times(throwsMade, thing);
      default: return times(drops, thing);
    }
  }

  private int juggler(int juggler, int what) {
    switch (what) {
      case 0: return skills.get(juggler);
      case 1: return times(bruises, juggler);
      case 2: return hands.getOrDefault(juggler * 2, -1);
      case 3: return hands.getOrDefault(juggler * 2 + 1, -1);
      case 4: return heights.get(juggler).length();
      case 5: return (int) flights.stream().filter(f -> f.to == juggler).count();
      default: return times(catches, juggler);
    }
  }

  private static boolean lasts(String row) {
    for (int i = 0; i < row.length(); i++) {
      for (int k = 0; k < i; k++) {
        if ((i + row.charAt(i) - k - row.charAt(k)) % row.length() == 0) {
          return false;
        }
      }
    }
    return true;
  }

  private static int asks(String row) {
    double balls = row.chars().map(d -> d - '0').average().orElse(0);
    return balls == Math.floor(balls) ? (int) balls : -1;
  }

  private int shortest(int juggler) {
    String h = heights.get(juggler);
    String r = receivers.get(juggler);
    for (int p = 1; ; p++) {
      if (h.length() % p == 0 && h.substring(0, p).repeat(h.length() / p).equals(h)
          && r.substring(0, p).repeat(r.length() / p).equals(r)) {
        return p;
      }
    }
  }

  private int go(int beats) {
    int before = drops.size();
    for (int end = beat + beats; beat < end; beat++) {
      comeDown();
      throwAll();
    }
    return drops.size() - before;
  }

  private void comeDown() {
    List<Flight> landing = new ArrayList<>(flights);
    landing.removeIf(f -> f.lands != beat);
    landing.sort((f, g) -> f.thing - g.thing);
    flights.removeAll(landing);
    for (Flight f : landing) {
      int slot = f.to * 2 + beat % 2;
      if (!hands.containsKey(slot) && f.height - 2 <= skills.get(f.to)) {
        hands.put(slot, f.thing);
        catches.add(f.to);
      } else {
        drops.add(f.thing);
        if (kinds.get(f.thing) == 1) {
          bruises.add(f.to);
        }
      }
    }
  }

  private void throwAll() {
    for (int j = 0; j < skills.size(); j++) {
      int place = beat % heights.get(j).length();
      int height = heights.get(j).charAt(place) - '0';
      Integer thing = hands.get(j * 2 + beat % 2);
      if (thing == null || height == 0) {
        continue;
      }
      hands.remove(j * 2 + beat % 2);
      int kind = kinds.get(thing);
      int change = kind == 1 && height > 2 ? -1 : kind == 2 && height > 4 ? 1 : 0;
      int to = receivers.get(j).charAt(place) - '0';
      flights.add(new Flight(thing, to, beat + height + change, height));
      throwsMade.add(thing);
    }
  }

  private int count(int what) {
    int[] states = new int[4];
    for (int thing = 0; thing < kinds.size(); thing++) {
      states[state(thing)]++;
    }
    int[] answers = {beat, skills.size(), kinds.size(), states[1], states[2], states[0], states[3],
        drops.size(), throwsMade.size()};
    return answers[what];
  }

  private int falls() {
    Model m = copy();
    for (int n = 1; n <= 200; n++) {
      if (m.go(1) > 0) {
        return n;
      }
    }
    return -1;
  }

  private int foresee(int beats, int what) {
    Model m = copy();
    int fallen = m.go(beats);
    return what == 0 ? m.flights.size() : what == 1 ? fallen : m.bruises.size();
  }

  private int advise(int juggler, int beats) {
    int fewest = foresee(beats, 1);
    int best = -1;
    String row = heights.get(juggler);
    for (int number = 0; number < 10 * row.length(); number++) {
      Model m = copy();
      int place = number / 10;
      m.heights.set(juggler, row.substring(0, place) + number % 10 + row.substring(place + 1));
      int fallen = m.go(beats);
      if (fallen < fewest) {
        fewest = fallen;
        best = number;
      }
    }
    return best;
  }

  private long digest() {
    List<Integer> told = new ArrayList<>();
    for (int what = 0; what < 9; what++) {
      told.add(count(what));
    }
    for (int j = 0; j < skills.size(); j++) {
      for (int what = 0; what < 7; what++) {
        told.add(juggler(j, what));
      }
      for (int place = 0; place < heights.get(j).length(); place++) {
        told.add(heights.get(j).charAt(place) - '0');
        told.add(receivers.get(j).charAt(place) - '0');
      }
    }
    for (int thing = 0; thing < kinds.size(); thing++) {
      for (int what = 0; what < 7; what++) {
        told.add(thing(thing, what));
      }
    }
    long d = 953;
    for (int x : told) {
      d = d * 31 + x;
    }
    return d;
  }
}
