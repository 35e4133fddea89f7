import java.io.IOException;
import java.math.BigInteger;

/** The sentences of promises 1 to 9 that name a boundary case: what makes a FRACTION. */
public final class BoundariesOfPromises1To9 {
  private static final BigInteger ZERO = BigInteger.ZERO, ONE = BigInteger.ONE, TWO = BigInteger.TWO, MOST = Odds.MOST;

  private static void newObject() {
    Sentence.of(1, "All is NOTHING; CODE 0.");
    Sentence.due("CODE", new Odds().call("code()"), 0L);
    Sentence.due("grown", new Odds().call("grown()"), 0L);
    Odds used = Odds.scene();
    used.refused(4, "row(0, -1)");
    Odds x = new Odds();
    Sentence.due("CODE beside another object", x.call("code()"), 0L);
    for (int f = 0; f < 16; f++) Sentence.due("FRACTION " + f, x.fraction(f), "NOTHING");
    for (int r = 0; r < 4; r++) x.refused(1, "filled(" + r + ")");
  }

  private static void code() {
    Sentence.of(2, "CODE of the latest call of those below that can tell one above 0, or of binomial() (0).");
    Odds x = Odds.scene();
    x.all("limb(1, 0, 1)");
    Sentence.due("CODE", x.call("code()"), 3L);
    Sentence.due("CODE once more", x.call("code()"), 3L);
    x.all("common(7, 5, 1)");
    Sentence.due("CODE of the latest", x.call("code()"), 2L);
    for (String[] call : Odds.DONE) x.done(Long.parseLong(call[0]), call[1]);
    x.leavesCode(3, "grown()");
    x.leavesCode(1, "nothing(1)");
    x.leavesCode(0, "nothing(9)");
    x.outside("binomial(8, 251, 0)");
    x.outside("exact(8, 0, 0)");
  }

  private static void value() {
    Sentence.of(3, "A FRACTION is above / below, any longs.");
    long[] longs = {Long.MIN_VALUE, Long.MIN_VALUE + 1, -(1L << 62), -(1L << 32), -6, -1, 0, 1, 4, 0xffffffffL, 1L << 62, Long.MAX_VALUE - 1, Long.MAX_VALUE};
    for (long above : longs) {
      Odds x = new Odds();
      for (long below : longs) {
        String call = "value(0, " + above + ", " + below + ")";
        if (below == 0) continue;
        BigInteger part = BigInteger.valueOf(above).gcd(BigInteger.valueOf(below));
        if (below < 0) part = part.negate();
        x.done(Long.signum(above) * Long.signum(below), call);
        x.is(0, BigInteger.valueOf(above).divide(part), BigInteger.valueOf(below).divide(part));
      }
    }
  }

  private static void valueBy0() {
    Sentence.of(3, "CODE 5.");
    Odds x = new Odds();
    for (String above : new String[] {"MIN", "-1", "0", "1", "MAX"}) x.refused(5, "value(0, " + above + ", 0)");
    Sentence.due("FRACTION 0", x.fraction(0), "NOTHING");
    x.call("value(0, 2, 3)");
    x.refused(5, "value(0, 0, 0)");
    x.is(0, 2, 3);
  }

  private static void copy() {
    Sentence.of(4, "A FRACTION is what another one is.");
    Odds x = new Odds();
    x.make(0, MOST.negate(), MOST.subtract(ONE));
    x.done(-1, "copy(15, 0)");
    x.is(15, MOST.negate(), MOST.subtract(ONE));
    x.done(-1, "copy(0, 0)");
    x.is(0, MOST.negate(), MOST.subtract(ONE));
    x.call("value(1, 0, 1)");
    x.done(0, "copy(0, 1)");
    x.is(0, 0, 1);
    x.call("value(1, 3, 1)");
    x.is(0, 0, 1);
    x.call("value(0, 4, 1)");
    x.is(15, MOST.negate(), MOST.subtract(ONE));
  }

  private static void copyOfNothing() {
    Sentence.of(4, "CODE 1.");
    Odds x = new Odds();
    x.refused(1, "copy(0, 0)");
    x.refused(1, "copy(0, 15)");
    x.call("value(0, 0, 1)");
    x.refused(1, "copy(0, 1)");
    x.is(0, 0, 1);
    x.done(0, "copy(1, 0)");
    x.call("nothing(0)");
    x.refused(1, "copy(1, 0)");
    x.is(1, 0, 1);
  }

  private static void nothing() {
    Sentence.of(5, "A FRACTION is NOTHING: 1, 0 if it was. (No CODE.)");
    Odds x = new Odds();
    x.leavesCode(0, "nothing(0)");
    x.call("value(0, 0, 1)");
    x.leavesCode(1, "nothing(0)");
    Sentence.due("FRACTION 0", x.fraction(0), "NOTHING");
    x.leavesCode(0, "nothing(0)");
    x.call("from(15, 0x1p255)");
    x.leavesCode(1, "nothing(15)");
    x.refused(1, "sign(15)");
    x.refused(5, "value(15, 1, 0)");
    x.leavesCode(0, "nothing(15)");
    x.outside("nothing(16)");
    x.outside("nothing(-1)");
  }

  private static void workIs(int act, long above, long below) {
    for (int f = 0; f < 3; f++) {
      Odds x = new Odds();
      x.all("value(0, -5, 6)", "value(1, 3, 4)");
      x.done(Long.signum(above), "work(" + act + ", " + f + ", 0, 1)");
      x.is(f, above, below);
      if (f != 0) x.is(0, -5, 6);
      if (f != 1) x.is(1, 3, 4);
    }
  }

  private static void work() {
    Sentence.of(6, "A FRACTION is a + b (act 0), a - b (1), a b (2), a / b (3), the lesser (4), the greater (5).");
    workIs(0, -1, 12);
    workIs(1, -19, 12);
    workIs(2, -5, 8);
    workIs(3, -10, 9);
    workIs(4, -5, 6);
    workIs(5, 3, 4);
    long[][] ofItself = {{0, 3, 2}, {1, 0, 1}, {2, 9, 16}, {3, 1, 1}, {4, 3, 4}, {5, 3, 4}};
    for (long[] set : ofItself) {
      Odds x = new Odds();
      x.call("value(0, 3, 4)");
      x.done(Long.signum(set[1]), "work(" + set[0] + ", 0, 0, 0)");
      x.is(0, set[1], set[2]);
    }
    Odds y = new Odds();
    y.make(0, MOST, MOST.subtract(ONE));
    y.make(1, MOST.subtract(ONE), MOST.subtract(TWO));
    y.done(1, "work(4, 2, 1, 0)");
    y.is(2, MOST, MOST.subtract(ONE));
    y.done(1, "work(5, 2, 0, 1)");
    y.is(2, MOST.subtract(ONE), MOST.subtract(TWO));
    y.outside("work(-1, 2, 0, 1)");
    y.outside("work(6, 2, 0, 1)");
  }

  private static void workRefused() {
    Sentence.of(6, "CODES 1, 5, 6.");
    Odds x = Odds.scene();
    x.refused(1, "work(3, 8, 9, 0)");
    x.refused(1, "work(3, 8, 0, 9)");
    x.refused(5, "work(3, 8, 0, 0)");
    x.refused(5, "work(3, 8, 4, 0)");
    x.done(0, "work(3, 8, 0, 4)");
    x.done(0, "work(2, 8, 4, 0)");
    x.done(1, "work(0, 8, 4, 0)");
    x.refused(6, "work(0, 4, 4, 4)");
    x.refused(6, "work(2, 6, 6, 6)");
    x.refused(6, "work(3, 6, 6, 4)");
    x.is(4, TWO.pow(255), ONE);
    x.is(6, ONE, TWO.pow(255));
    x.done(1, "work(2, 8, 4, 6)");
    x.is(8, 1, 1);
    x.done(1, "work(4, 8, 4, 6)");
    x.is(8, ONE, TWO.pow(255));
    x.done(1, "work(5, 8, 4, 6)");
    x.is(8, TWO.pow(255), ONE);
  }

  private static void powerIs(String base, int n, long above, long below) {
    Odds x = new Odds();
    x.call("value(0, " + base + ")");
    x.done(Long.signum(above), "power(1, 0, " + n + ")");
    x.is(1, above, below);
    x.done(Long.signum(above), "power(0, 0, " + n + ")");
    x.is(0, above, below);
  }

  private static void power() {
    Sentence.of(7, "A FRACTION is a to the power of n (-300 to 300; of 0: 1; below 0: 1 / a to the power of -n).");
    powerIs("1, 1", 300, 1, 1);
    powerIs("1, 1", -300, 1, 1);
    powerIs("-1, 1", 300, 1, 1);
    powerIs("-1, 1", -300, 1, 1);
    powerIs("-1, 1", 299, -1, 1);
    powerIs("-1, 1", -299, -1, 1);
    powerIs("0, 1", 300, 0, 1);
    powerIs("0, 1", 1, 0, 1);
    powerIs("0, 1", 0, 1, 1);
    powerIs("5, 7", 0, 1, 1);
    powerIs("-5, 7", 0, 1, 1);
    powerIs("MIN, 1", 0, 1, 1);
    powerIs("-5, 7", 1, -5, 7);
    powerIs("-5, 7", -1, -7, 5);
    powerIs("-5, 7", -2, 49, 25);
    powerIs("-5, 7", -3, -343, 125);
    powerIs("5, 7", 3, 125, 343);
    Odds x = Odds.scene();
    for (String n : new String[] {"-301", "301", "INT_MIN", "INT_MAX"}) x.outside("power(8, 1, " + n + ")");
  }

  private static void powerRefused() {
    Sentence.of(7, "CODES 1, 5, 6.");
    Odds x = Odds.scene();
    x.refused(1, "power(8, 9, -1)");
    x.refused(1, "power(8, 9, 0)");
    x.refused(5, "power(8, 0, -1)");
    x.refused(5, "power(8, 0, -300)");
    x.done(1, "power(8, 7, 255)");
    x.is(8, TWO.pow(255), ONE);
    x.refused(6, "power(8, 7, 256)");
    x.refused(6, "power(8, 7, 300)");
    x.is(8, TWO.pow(255), ONE);
    x.done(1, "power(8, 7, -255)");
    x.is(8, ONE, TWO.pow(255));
    x.refused(6, "power(8, 7, -256)");
    x.refused(6, "power(8, 7, -300)");
    x.call("value(10, -2, 3)");
    x.done(-1, "power(8, 10, 161)");
    x.is(8, TWO.pow(161).negate(), BigInteger.valueOf(3).pow(161));
    x.refused(6, "power(8, 10, 162)");
    x.refused(6, "power(8, 10, -162)");
    Odds y = new Odds();
    y.make(0, MOST, ONE);
    y.done(1, "power(1, 0, -1)");
    y.is(1, ONE, MOST);
    y.refused(6, "power(1, 0, 2)");
    y.refused(6, "power(1, 1, 2)");
    y.done(1, "power(1, 1, -1)");
    y.is(1, MOST, ONE);
    BigInteger root = TWO.pow(128);
    y.make(2, root.subtract(ONE), ONE);
    y.done(1, "power(3, 2, 2)");
    y.is(3, root.subtract(ONE).pow(2), ONE);
    y.make(2, root, ONE);
    y.refused(6, "power(3, 2, 2)");
  }

  private static BigInteger waysToTake(int n, int k) {
    BigInteger ways = ONE;
    for (int i = 1; i <= k; i++) ways = ways.multiply(BigInteger.valueOf(n - k + i)).divide(BigInteger.valueOf(i));
    return ways;
  }

  private static void binomial() {
    Sentence.of(8, "A FRACTION is in how many ways k of n (0 to 250) may be taken");
    int[][] sets = {{0, 0}, {1, 0}, {1, 1}, {2, 1}, {66, 33}, {67, 33}, {249, 124}, {250, 0}, {250, 1}, {250, 2}, {250, 124}, {250, 125}, {250, 126}, {250, 249}, {250, 250}};
    Odds x = new Odds();
    for (int[] set : sets) {
      x.done(1, "binomial(0, " + set[0] + ", " + set[1] + ")");
      x.is(0, waysToTake(set[0], set[1]), ONE);
    }
    for (String n : new String[] {"-1", "251", "INT_MIN", "INT_MAX"}) x.outside("binomial(0, " + n + ", 0)");
    x.is(0, 1, 1);
  }

  private static void binomialOfNoWay() {
    Sentence.of(8, "0, if k is below 0, above n.");
    Odds x = new Odds();
    for (String set : new String[] {"0, -1", "0, 1", "5, -1", "5, 6", "250, -1", "250, 251", "250, INT_MIN", "250, INT_MAX", "0, INT_MIN", "0, INT_MAX"}) {
      x.call("value(0, 5, 3)");
      x.done(0, "binomial(0, " + set + ")");
      x.is(0, 0, 1);
    }
  }

  private static void commonIs(BigInteger a, BigInteger b, BigInteger want) {
    Odds x = new Odds();
    x.make(0, a, ONE);
    x.make(1, b, ONE);
    for (String set : new String[] {"2, 0, 1", "3, 1, 0"}) x.done(want.signum(), "common(" + set + ")");
    x.is(2, want, ONE);
    x.is(3, want, ONE);
    x.done(want.signum(), "common(0, 0, 1)");
    x.is(0, want, ONE);
  }

  private static void common() {
    Sentence.of(9, "A FRACTION is the greatest number that divides both (0 of 0 and 0).");
    BigInteger twos = TWO.pow(255);
    commonIs(ZERO, ZERO, ZERO);
    commonIs(ZERO, BigInteger.valueOf(-7), BigInteger.valueOf(7));
    commonIs(ZERO, MOST.negate(), MOST);
    commonIs(ONE, MOST, ONE);
    commonIs(ONE.negate(), ONE.negate(), ONE);
    commonIs(BigInteger.valueOf(-12), BigInteger.valueOf(-18), BigInteger.valueOf(6));
    commonIs(MOST, MOST, MOST);
    commonIs(MOST, MOST.negate(), MOST);
    commonIs(MOST, MOST.subtract(ONE), ONE);
    commonIs(twos, MOST, ONE);
    commonIs(twos, twos.negate(), twos);
    commonIs(BigInteger.valueOf(Long.MIN_VALUE), twos, TWO.pow(63));
    commonIs(TWO.pow(128).subtract(ONE), MOST, TWO.pow(128).subtract(ONE));
  }

  private static void commonRefused() {
    Sentence.of(9, "CODES 1, 2.");
    Odds x = Odds.scene();
    x.refused(1, "common(8, 9, 5)");
    x.refused(1, "common(8, 5, 9)");
    x.refused(2, "common(8, 5, 5)");
    x.refused(2, "common(8, 1, 6)");
    x.refused(2, "common(8, 6, 1)");
    Sentence.due("FRACTION 8", x.fraction(8), "NOTHING");
  }

  public static void main(String[] args) throws IOException {
    Sentence.open();
    newObject();
    code();
    value();
    valueBy0();
    copy();
    copyOfNothing();
    nothing();
    work();
    workRefused();
    power();
    powerRefused();
    binomial();
    binomialOfNoWay();
    common();
    commonRefused();
    Sentence.close(1, 9);
  }
}
