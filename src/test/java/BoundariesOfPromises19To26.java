import java.io.IOException;
import java.math.BigInteger;
import java.util.Arrays;

/** The sentences of promises 19 to 26 that name a boundary case: ROWS, and what has grown. */
public final class BoundariesOfPromises19To26 {
  private static final BigInteger ONE = BigInteger.ONE, TWO = BigInteger.TWO, MOST = Odds.MOST;
  /** Ten places of these come to ten, to one. */
  private static final String[] ONES = tenOf("1/1"), TENTHS = tenOf("1/10");

  private static String[] tenOf(String place) {
    String[] places = new String[10];
    Arrays.fill(places, place);
    return places;
  }

  private static void row() {
    Sentence.of(19, "A ROW has n places, all NOTHING: n.");
    Odds x = new Odds();
    x.call("value(0, 1, 2)");
    for (int n : new int[] {10, 3, 10, 0, 1, 10}) {
      x.done(n, "row(0, " + n + ")");
      x.done(0, "filled(0)");
      for (int k = 0; k < n; k++) x.call("put(0, " + k + ", 0)");
      x.done(n, "filled(0)");
      x.refused(3, "put(0, " + n + ", 0)");
    }
    x.refused(1, "filled(1)");
  }

  private static void rowOfLessThanNone() {
    Sentence.of(19, "CODE 4");
    Odds x = new Odds();
    for (String n : new String[] {"-1", "-10", "INT_MIN"}) {
      x.refused(4, "row(0, " + n + ")");
      x.refused(1, "filled(0)");
    }
    x.all("value(0, 1, 2)", "row(0, 1)", "put(0, 0, 0)");
    x.refused(4, "row(0, -1)");
    x.done(1, "filled(0)");
    x.done(0, "row(0, 0)");
    x.done(0, "filled(0)");
  }

  private static void rowOfMoreThan10() {
    Sentence.of(19, "OUTSIDE: n is above 10.");
    Odds x = new Odds();
    for (String n : new String[] {"11", "12", "INT_MAX"}) {
      x.outside("row(0, " + n + ")");
      x.refused(1, "filled(0)");
    }
    x.all("value(0, 1, 2)", "row(0, 1)", "put(0, 0, 0)");
    x.outside("row(0, 11)");
    x.done(1, "filled(0)");
    x.refused(3, "put(0, 1, 0)");
    x.done(10, "row(0, 10)");
  }

  private static void put() {
    Sentence.of(20, "Place k of a ROW is a FRACTION: 1.");
    Odds x = new Odds();
    x.all("value(0, 0, 1)", "value(1, 1, 2)", "from(2, 0x1p255)", "row(0, 3)");
    x.done(1, "put(0, 0, 0)");
    x.done(1, "put(0, 2, 1)");
    Sentence.due("ROW 0", x.places(0), " [0 / 1] [NOTHING] [1 / 2]");
    x.done(1, "put(0, 2, 2)");
    x.done(1, "put(0, 1, 1)");
    x.done(1, "put(0, 0, 1)");
    Sentence.due("ROW 0", x.places(0), " [1 / 2] [1 / 2] [" + TWO.pow(255) + " / 1]");
  }

  private static void putRefused() {
    Sentence.of(20, "CODES 1 (the ROW, then the FRACTION), 3.");
    Odds x = new Odds();
    x.all("value(1, 1, 2)", "value(2, 5, 1)", "row(0, 3)", "put(0, 0, 1)", "put(0, 2, 2)");
    for (String k : new String[] {"-1", "3", "10", "INT_MIN", "INT_MAX"}) {
      x.refused(3, "put(0, " + k + ", 1)");
      x.refused(1, "put(0, " + k + ", 9)");
      x.refused(1, "put(1, " + k + ", 1)");
    }
    x.refused(1, "put(0, 0, 9)");
    x.refused(1, "put(1, 0, 1)");
    x.refused(1, "put(1, 0, 9)");
    x.call("row(1, 0)");
    x.refused(3, "put(1, 0, 1)");
    x.refused(1, "put(1, 0, 9)");
    Sentence.due("ROW 0", x.places(0), " [1 / 2] [NOTHING] [5 / 1]");
  }

  /** ROW 0 is 1 to 5, ROW 1 is 6, 7, NOTHING; ROW 2 is NOTHING. */
  private static Odds rowsToMove() {
    Odds x = new Odds();
    x.all("row(0, 5)", "row(1, 3)");
    for (int k = 0; k < 7; k++) x.all("value(0, " + (k + 1) + ", 1)", "put(" + k / 5 + ", " + k % 5 + ", 0)");
    return x;
  }

  private static void moved(String call, String zero, String one) {
    Odds x = rowsToMove();
    x.done(Long.parseLong(call.substring(call.lastIndexOf(' ') + 1, call.length() - 1)), call);
    Sentence.due("ROW 0 after " + call, x.places(0).replace(" / 1]", "]"), zero);
    Sentence.due("ROW 1 after " + call, x.places(1).replace(" / 1]", "]"), one);
  }

  private static void move() {
    Sentence.of(21, "n places of a ROW, from i on, come to another one (or the same), from j on, as if they were taken first: n.");
    String zero = " [1] [2] [3] [4] [5]";
    String one = " [6] [7] [NOTHING]";
    moved("move(0, 0, 0, 1, 4)", " [1] [1] [2] [3] [4]", one);
    moved("move(0, 1, 0, 0, 4)", " [2] [3] [4] [5] [5]", one);
    moved("move(0, 0, 0, 2, 3)", " [1] [2] [1] [2] [3]", one);
    moved("move(0, 2, 0, 0, 3)", " [3] [4] [5] [4] [5]", one);
    moved("move(0, 0, 0, 4, 1)", " [1] [2] [3] [4] [1]", one);
    moved("move(0, 0, 0, 0, 5)", zero, one);
    moved("move(0, 2, 1, 0, 3)", zero, " [3] [4] [5]");
    moved("move(0, 4, 1, 2, 1)", zero, " [6] [7] [5]");
    moved("move(1, 0, 0, 2, 3)", " [1] [2] [6] [7] [NOTHING]", one);
    moved("move(1, 1, 1, 0, 2)", zero, " [7] [NOTHING] [NOTHING]");
    moved("move(1, 0, 1, 1, 2)", zero, " [6] [6] [7]");
    moved("move(1, 2, 0, 0, 1)", " [NOTHING] [2] [3] [4] [5]", one);
    moved("move(0, 0, 1, 0, 0)", zero, one);
    moved("move(0, 5, 1, 3, 0)", zero, one);
    Odds x = new Odds();
    x.all("row(0, 10)", "row(1, 10)", "row(2, 0)", "value(0, 1, 10)");
    for (int k = 0; k < 10; k++) x.call("put(0, " + k + ", 0)");
    x.done(10, "move(0, 0, 1, 0, 10)");
    x.done(1, "one(1)");
    x.done(1, "one(0)");
    x.done(0, "move(2, 0, 2, 0, 0)");
  }

  private static void moveRefused() {
    Sentence.of(21, "CODES 1 (either), 3 (i, j, n below 0, or not so many).");
    Odds x = rowsToMove();
    for (String set : new String[] {"0, #, 0, 0", "0, #, 0, 1", "-1, #, 0, 1", "0, #, 9, 1", "0, #, 0, -1"}) {
      x.refused(1, "move(0, " + set.replace("#", "2") + ")");
      x.refused(1, "move(2, " + set.replace("#", "0") + ")");
      x.refused(1, "move(2, " + set.replace("#", "2") + ")");
    }
    String[] sets = {
      "-1, 1, 0, 1", "0, 1, -1, 1", "0, 1, 0, -1", "-1, 1, 0, 0", "0, 1, -1, 0", "INT_MIN, 1, 0, 1", "0, 1, INT_MIN, 1", "0, 1, 0, INT_MIN",
      "-1, 1, -1, -1", "0, 1, 0, 4", "0, 1, 1, 3", "0, 1, 3, 1", "3, 1, 0, 3", "5, 1, 0, 1", "4, 1, 0, 2", "6, 1, 0, 0", "0, 1, 4, 0",
      "INT_MAX, 1, 0, 1", "0, 1, INT_MAX, 1", "0, 1, 0, INT_MAX", "INT_MAX, 1, 0, INT_MAX", "1, 1, 1, INT_MAX", "INT_MAX, 1, INT_MAX, INT_MAX",
      "INT_MAX, 1, 0, 0", "0, 1, INT_MAX, 0", "INT_MIN, 1, INT_MIN, INT_MIN", "0, 0, 0, 6", "1, 0, 0, 5", "0, 0, 1, 5"
    };
    for (String set : sets) x.refused(3, "move(0, " + set + ")");
    x.refused(3, "move(1, 0, 0, 0, 4)");
    x.refused(3, "move(1, 3, 0, 0, 1)");
    x.refused(3, "move(1, 0, 0, 3, 3)");
    x.call("row(2, 0)");
    x.refused(3, "move(2, 0, 0, 0, 1)");
    x.refused(3, "move(0, 0, 2, 0, 1)");
    Sentence.due("ROW 0", x.places(0), " [1 / 1] [2 / 1] [3 / 1] [4 / 1] [5 / 1]");
    Sentence.due("ROW 1", x.places(1), " [6 / 1] [7 / 1] [NOTHING]");
  }

  private static void filled() {
    Sentence.of(22, "How many places a ROW has that are not NOTHING.");
    Odds x = new Odds();
    x.call("value(0, 0, 1)");
    x.call("row(0, 0)");
    x.done(0, "filled(0)");
    x.call("row(0, 10)");
    x.done(0, "filled(0)");
    for (int k = 9; k >= 0; k--) {
      x.call("put(0, " + k + ", 0)");
      x.done(10 - k, "filled(0)");
    }
    x.call("put(0, 9, 0)");
    x.done(10, "filled(0)");
    x.all("row(1, 10)", "move(1, 0, 0, 0, 3)");
    x.done(7, "filled(0)");
    x.done(0, "filled(1)");
  }

  private static void filledOfNothing() {
    Sentence.of(22, "CODE 1.");
    Odds x = new Odds();
    for (int r = 0; r < 4; r++) {
      x.refused(1, "filled(" + r + ")");
      x.call("row(" + r + ", 0)");
      x.done(0, "filled(" + r + ")");
    }
  }

  /** ROW 0 is of these places: w for 2^255, n for -2^255, s for 2^-255, t for 3^-161, - for NOTHING, others as they stand. */
  private static Odds rowOf(String... places) {
    Odds x = new Odds();
    x.all("from(10, 0x1p255)", "from(11, -0x1p255)", "from(12, 0x1p-255)", "value(13, 1, 3)", "power(13, 13, 161)");
    x.call("row(0, " + places.length + ")");
    for (int k = 0; k < places.length; k++) {
      if (places[k].equals("-")) continue;
      int kind = "wnst".indexOf(places[k]);
      if (kind < 0) x.call("value(9, " + numbersOf(places[k]) + ")");
      x.call("put(0, " + k + ", " + (kind < 0 ? 9 : 10 + kind) + ")");
    }
    return x;
  }

  private static String numbersOf(String fraction) {
    return fraction.replace("/", ", ");
  }

  private static void sumIs(long above, long below, String... places) {
    Odds x = rowOf(places);
    x.done(Long.signum(above), "sum(0, 0)");
    x.is(0, above, below);
  }

  private static void sumRefused(int code, String... places) {
    Odds x = rowOf(places);
    x.call("value(0, 5, 7)");
    x.refused(code, "sum(0, 0)");
    x.is(0, 5, 7);
  }

  private static void sum() {
    Sentence.of(23, "A FRACTION is the sum of all places of a ROW.");
    sumIs(0, 1);
    sumIs(5, 3, "5/3");
    sumIs(-5, 3, "-5/3");
    sumIs(0, 1, "1/2", "-1/2");
    sumIs(1, 1, TENTHS);
    sumIs(10, 1, ONES);
    sumIs(1023, 1024, "1/2", "1/4", "1/8", "1/16", "1/32", "1/64", "1/128", "1/256", "1/512", "1/1024");
    sumIs(1, 6, "1/2", "-1/3", "0/1");
  }

  private static void sumOfNothing() {
    Sentence.of(23, "CODES 1 (the ROW, one of its places)");
    new Odds().refused(1, "sum(0, 0)");
    sumRefused(1, "-");
    sumRefused(1, "-", "1/2");
    sumRefused(1, "1/2", "-", "1/2");
    sumRefused(1, "1/2", "-");
    sumRefused(1, "1/1", "1/1", "1/1", "1/1", "1/1", "1/1", "1/1", "1/1", "1/1", "-");
    sumRefused(1, "w", "w", "-");
    sumRefused(1, "-", "w", "w");
  }

  private static void sumsOfTheFirstOnes() {
    Sentence.of(23, "6 (of the sums of the first ones, by places, the first that is not WIDE as told).");
    sumRefused(6, "w", "w");
    sumRefused(6, "n", "n");
    sumRefused(6, "w", "w", "n");
    sumRefused(6, "0/1", "n", "n", "w", "w");
    sumRefused(6, "s", "t");
    sumRefused(6, "w", "s");
    sumRefused(6, "w", "s", "n");
    sumIs(0, 1, "w", "n", "w", "n", "w", "n", "w", "n", "w", "n");
    sumIs(7, 1, "w", "7/1", "n");
    Odds x = rowOf("w", "1/1");
    x.make(0, MOST.subtract(TWO.pow(255)), ONE);
    x.call("put(0, 1, 0)");
    x.done(1, "sum(0, 0)");
    x.is(0, MOST, ONE);
    x.all("put(0, 0, 0)", "value(1, 1, 1)", "put(0, 1, 1)");
    x.refused(6, "sum(2, 0)");
    x.all("value(1, -1, 1)", "put(0, 1, 1)");
    x.done(1, "sum(2, 0)");
    x.is(2, MOST.subtract(ONE), ONE);
    Odds y = rowOf("1/1", "n", "n");
    y.done(-1, "sum(0, 0)");
    y.is(0, MOST.negate(), ONE);
  }

  private static void one() {
    Sentence.of(24, "Whether the sum of a ROW is 1: 1, 0.");
    String[][] others = {
      {}, {"0/1"}, {"-1/1"}, {"1/2"}, {"2/1"}, {"1/1", "1/1"}, {"1/2", "1/3"}, {"MAX/9223372036854775806"}, {"9223372036854775806/MAX"}, {"w"}, {"s"}, ONES
    };
    for (String[] places : others) rowOf(places).done(0, "one(0)");
    String[][] ones = {{"1/1"}, {"1/2", "1/3", "1/6"}, {"2/1", "-1/1"}, {"0/1", "1/1", "0/1"}, {"w", "1/1", "n"}, TENTHS};
    for (String[] places : ones) rowOf(places).done(1, "one(0)");
    Odds x = new Odds();
    x.make(0, MOST.subtract(ONE), MOST);
    x.make(1, ONE, MOST);
    x.all("row(0, 2)", "put(0, 0, 0)", "put(0, 1, 1)");
    x.done(1, "one(0)");
    x.call("put(0, 0, 1)");
    x.done(0, "one(0)");
    x.make(2, MOST, MOST.subtract(ONE));
    x.all("row(0, 1)", "put(0, 0, 2)");
    x.done(0, "one(0)");
  }

  private static void oneRefused() {
    Sentence.of(24, "CODES as sum().");
    new Odds().refused(1, "one(0)");
    String[][] none = {{"-"}, {"-", "1/1"}, {"1/1", "-"}, {"w", "w", "-"}};
    for (String[] places : none) rowOf(places).refused(1, "one(0)");
    String[][] notWide = {{"w", "w"}, {"w", "w", "n"}, {"w", "1/1", "w", "n", "n"}, {"s", "t"}, {"-1/1", "n", "n"}};
    for (String[] places : notWide) rowOf(places).refused(6, "one(0)");
  }

  private static void pickIs(long want, String bound, String... places) {
    Odds x = rowOf(places);
    x.call("value(0, " + numbersOf(bound) + ")");
    x.done(want, "pick(0, 0)");
  }

  private static void pick() {
    Sentence.of(25, "The first place k of a ROW for which the sum of places 0 to k is above a FRACTION");
    String[] odds = {"1/4", "1/4", "1/2"};
    pickIs(0, "-1/1", odds);
    pickIs(0, "0/1", odds);
    pickIs(0, "249999999/1000000000", odds);
    pickIs(1, "1/4", odds);
    pickIs(1, "499999999/1000000000", odds);
    pickIs(2, "1/2", odds);
    pickIs(2, "999999999/1000000000", odds);
    pickIs(1, "0/1", "0/1", "1/1");
    pickIs(0, "-1/1", "0/1", "1/1");
    pickIs(0, "1/2", "1/1", "-1/1", "2/1");
    pickIs(2, "1/1", "1/1", "-1/1", "2/1");
    pickIs(1, "-1/2", "-1/1", "1/1");
    pickIs(9, "9/1", ONES);
  }

  private static void pickOfNone() {
    Sentence.of(25, "NONE: there is none such (it is 0 with a CODE).");
    String[] odds = {"1/4", "1/4", "1/2"};
    pickIs(-1, "1/1", odds);
    pickIs(-1, "2/1", odds);
    pickIs(-1, "-1/1");
    pickIs(-1, "0/1", "0/1");
    pickIs(-1, "2/1", "1/1", "-1/1", "2/1");
    pickIs(-1, "10/1", ONES);
    new Odds().refused(1, "pick(0, 0)");
  }

  private static void pickRefused(int code, String bound, String... places) {
    Odds x = rowOf(places);
    x.call("value(0, " + numbersOf(bound) + ")");
    x.refused(code, "pick(0, 0)");
  }

  private static void pickComesTo() {
    Sentence.of(25, "CODES 1 (the ROW, the FRACTION, then a place that is come to), 6 (of a sum that is come to).");
    Odds x = rowOf("1/1");
    x.refused(1, "pick(1, 10)");
    x.refused(1, "pick(0, 0)");
    x.refused(1, "pick(1, 0)");
    x.call("row(1, 0)");
    x.refused(1, "pick(1, 0)");
    pickRefused(1, "0/1", "-");
    pickRefused(1, "0/1", "-", "1/1");
    pickRefused(1, "1/1", "1/1", "-");
    pickRefused(1, "2/1", "1/1", "1/1", "-", "1/1");
    pickIs(0, "0/1", "1/1", "-");
    pickIs(1, "1/1", "1/1", "1/1", "-");
    pickRefused(6, "0/1", "n", "n");
    pickRefused(6, "0/1", "n", "n", "-");
    pickRefused(1, "0/1", "n", "-", "n");
    pickRefused(6, "0/1", "n", "n", "w", "w", "w");
    pickRefused(6, "1/1", "s", "t");
    pickIs(0, "0/1", "w", "w");
    pickIs(0, "0/1", "s", "t");
    pickIs(2, "0/1", "n", "w", "w", "w");
    Odds y = rowOf("w", "w");
    y.refused(6, "pick(0, 10)");
    y.done(0, "pick(0, 11)");
  }

  private static void grownBy(int want, Odds x, String... calls) {
    long before = x.call("grown()");
    x.all(calls);
    Sentence.due("grown by " + calls[calls.length - 1], x.call("grown()") - before, (long) want);
  }

  private static void grown() {
    Sentence.of(26, "How many FRACTIONS were made by value(), work(), power(), binomial(), common(), from(), sum() that are not SMALL.");
    Odds x = new Odds();
    grownBy(0, x, "value(0, MAX, 1)");
    grownBy(0, x, "value(1, 1, MAX)");
    grownBy(0, x, "value(2, MIN, 2)");
    grownBy(1, x, "value(2, MIN, 1)");
    grownBy(1, x, "value(2, MIN, -1)");
    grownBy(1, x, "value(3, 1, MIN)");
    grownBy(1, x, "value(3, MAX, MIN)");
    x.all("value(4, 1, 1)", "value(5, -1, 1)", "value(6, 1, 2)");
    grownBy(1, x, "work(0, 7, 0, 4)");
    grownBy(0, x, "work(1, 8, 7, 4)");
    grownBy(1, x, "work(2, 8, 2, 5)");
    grownBy(0, x, "work(2, 8, 2, 6)");
    grownBy(1, x, "work(3, 8, 6, 0)");
    grownBy(0, x, "work(4, 8, 2, 0)");
    grownBy(1, x, "work(5, 8, 2, 0)");
    grownBy(1, x, "work(4, 8, 2, 2)");
    grownBy(1, x, "power(8, 0, 2)");
    grownBy(0, x, "power(8, 0, 1)");
    grownBy(0, x, "power(8, 0, -1)");
    grownBy(0, x, "binomial(8, 66, 33)");
    grownBy(1, x, "binomial(8, 67, 33)");
    grownBy(1, x, "common(8, 2, 2)");
    grownBy(0, x, "common(8, 2, 0)");
    grownBy(1, x, "from(8, 0x1p63)");
    grownBy(1, x, "from(8, -0x1p63)");
    grownBy(1, x, "from(8, 0x1p-63)");
    grownBy(0, x, "from(8, 0x1p62)");
    grownBy(0, x, "from(8, 0x1p-62)");
    x.all("row(0, 2)", "put(0, 0, 0)", "put(0, 1, 4)");
    grownBy(1, x, "sum(8, 0)");
    x.all("put(0, 0, 2)", "put(0, 1, 5)");
    grownBy(0, x, "sum(8, 0)");
    grownBy(2, x, "from(2, 0x1p255)", "from(2, 0x1p255)");
    grownBy(0, x, "copy(8, 2)");
    grownBy(0, x, "row(0, 2)", "put(0, 0, 2)", "put(0, 1, 4)", "row(1, 2)", "move(0, 0, 1, 0, 2)");
    grownBy(0, x, "filled(0)", "one(0)", "pick(0, 2)", "order(2, 2)", "real(2, 0)");
    grownBy(0, x, "work(0, 8, 2, 2)", "work(0, 8, 2, 9)", "power(8, 2, 2)", "from(8, 0x1p256)", "value(16, MIN, 1)", "sum(8, 3)");
    grownBy(0, x, "nothing(2)", "nothing(8)");
  }

  private static void grownTellsNoCode() {
    Sentence.of(26, "(No CODE.)");
    Odds.scene().leavesCode(3, "grown()");
    new Odds().leavesCode(0, "grown()");
  }

  public static void main(String[] args) throws IOException {
    Sentence.open();
    row();
    rowOfLessThanNone();
    rowOfMoreThan10();
    put();
    putRefused();
    move();
    moveRefused();
    filled();
    filledOfNothing();
    sum();
    sumOfNothing();
    sumsOfTheFirstOnes();
    one();
    oneRefused();
    pick();
    pickOfNone();
    pickComesTo();
    grown();
    grownTellsNoCode();
    Sentence.close(19, 26);
  }
}
