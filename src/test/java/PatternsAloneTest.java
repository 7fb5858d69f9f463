/** Promises 10 to 12: lasts, asks, shortest. */
public final class PatternsAloneTest {
  private static final Class<IndexOutOfBoundsException> INDEX = IndexOutOfBoundsException.class;

  private static HammerEggs withPattern(int length, int heights) {
    HammerEggs x = new HammerEggs();
    x.come(5);
    x.come(5);
    x.setPattern(1, length, heights);
    return x;
  }

  private static void dueLasts(int length, int heights, boolean want) {
    HammerEggs x = withPattern(length, heights);
    Check.due("lasts of " + heights, x.lasts(1) ? 1 : 0, want ? 1 : 0);
    x.pass(1, 0, 0);
    Check.due("lasts of " + heights + " passed", x.lasts(1) ? 1 : 0, want ? 1 : 0);
  }

  private static void promise10Lasts() {
    dueLasts(1, 0, true);
    dueLasts(1, 9, true);
    dueLasts(2, 31, true);
    dueLasts(2, 32, false);
    dueLasts(3, 441, true);
    dueLasts(3, 432, false);
    dueLasts(3, 423, true);
    dueLasts(3, 543, false);
    dueLasts(5, 97531, true);
    dueLasts(8, 97531000, false);
    dueLasts(8, 88888888, true);
    dueLasts(8, 12345678, false);
    dueLasts(8, 70000001, true);
    dueLasts(4, 0, true);
  }

  private static void dueAsks(int length, int heights, int want) {
    HammerEggs x = withPattern(length, heights);
    Check.due("asks of " + heights, x.asks(1), want);
    x.pass(1, 0, 0);
    Check.due("asks of " + heights + " passed", x.asks(1), want);
  }

  private static void promise11Asks() {
    dueAsks(1, 0, 0);
    dueAsks(1, 9, 9);
    dueAsks(2, 31, 2);
    dueAsks(2, 32, -1);
    dueAsks(3, 543, 4);
    dueAsks(5, 97531, 5);
    dueAsks(8, 97531000, -1);
    dueAsks(8, 99999999, 9);
    dueAsks(8, 1, -1);
    dueAsks(8, 0, 0);
    dueAsks(2, 1, -1);
  }

  private static void dueShortest(int length, int heights, int want) {
    Check.due("shortest of " + heights, withPattern(length, heights).shortest(1), want);
  }

  private static void promise12Shortest() {
    dueShortest(1, 7, 1);
    dueShortest(8, 0, 1);
    dueShortest(8, 55555555, 1);
    dueShortest(8, 31313131, 2);
    dueShortest(8, 31203120, 4);
    dueShortest(8, 31203121, 8);
    dueShortest(6, 441441, 3);
    dueShortest(6, 424242, 2);
    dueShortest(6, 424243, 6);
    dueShortest(4, 4414, 4);
    dueShortest(5, 31313, 5);
    dueShortest(7, 4414414, 7);
    dueShortest(6, 442244, 6);
  }

  private static void promise12ShortestOfPasses() {
    HammerEggs x = withPattern(4, 3333);
    Check.due("3333", x.shortest(1), 1);
    x.pass(1, 1, 0);
    Check.due("one pass", x.shortest(1), 4);
    x.pass(1, 3, 0);
    Check.due("every second one passed", x.shortest(1), 2);
    x.pass(1, 0, 0);
    x.pass(1, 2, 0);
    Check.due("all passed", x.shortest(1), 1);
    x.pass(1, 3, 1);
    Check.due("the last one not passed", x.shortest(1), 4);
    Check.due("the other juggler", x.shortest(0), 1);
  }

  private static void refusals() {
    HammerEggs x = withPattern(2, 31);
    int[] wrong = {-1, 2, 3, 4, Integer.MIN_VALUE, Integer.MAX_VALUE};
    for (int juggler : wrong) {
      Check.refused(x, "lasts(" + juggler + ")", INDEX, () -> x.lasts(juggler));
      Check.refused(x, "asks(" + juggler + ")", INDEX, () -> x.asks(juggler));
      Check.refused(x, "shortest(" + juggler + ")", INDEX, () -> x.shortest(juggler));
    }
  }

  public static void main(String[] args) {
    promise10Lasts();
    promise11Asks();
    promise12Shortest();
    promise12ShortestOfPasses();
    refusals();
    Check.end();
  }
}
