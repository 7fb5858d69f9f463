/** The example of README.md, call by call: each answer is the one that its comments tell. */
public final class ReadmeTest {
  private static void theExample() {
    HammerEggs ring = new HammerEggs();
    int ann = ring.come(5);
    Check.due("ann", ann, 0);
    ring.setPattern(ann, 3, 441);
    Check.holds("endless", ring.lasts(ann));
    Check.due("balls", ring.asks(ann), 3);
    int ball = ring.make(0);
    Check.due("ball", ball, 0);
    int hammer = ring.make(1);
    ring.give(ball, ann, 0);
    ring.give(hammer, ann, 1);
    Check.due("first", ring.falls(), 5);
    Check.due("better", ring.advise(ann, 20), 0);
    Check.due("fallen", ring.go(5), 1);
    Check.due("bruises", ring.juggler(ann, 1), 1);
    Check.due("the hammer fell", ring.thing(hammer, 6), 1);
    Check.due("the ball came to this hand", ring.juggler(ann, 6), 1);
  }

  public static void main(String[] args) {
    theExample();
    Check.end();
  }
}
