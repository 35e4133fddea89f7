import java.io.IOException;
import java.math.BigInteger;

/** The sentences of promises 10 to 18 that name a boundary case: what tells of a FRACTION, and longs. */
public final class BoundariesOfPromises10To18 {
  private static final BigInteger ZERO = BigInteger.ZERO, ONE = BigInteger.ONE, TWO = BigInteger.TWO, MOST = Odds.MOST;

  private static void order() {
    Sentence.of(10, "-1, 0, 1: a is less than b, alike, greater.");
    Odds x = new Odds();
    BigInteger[][] rising = {
      {MOST.negate(), ONE}, {MOST.negate(), MOST.subtract(ONE)}, {ONE.negate(), MOST}, {ZERO, ONE}, {ONE, MOST},
      {MOST.subtract(ONE), MOST}, {ONE, ONE}, {MOST, MOST.subtract(ONE)}, {MOST, ONE}
    };
    for (int i = 0; i < rising.length; i++) x.make(i, rising[i][0], rising[i][1]);
    for (int i = 1; i < rising.length; i++) {
      Sentence.due("order of " + (i - 1) + ", " + i, x.call("order(" + (i - 1) + ", " + i + ")"), -1L);
      Sentence.due("order of " + i + ", " + (i - 1), x.call("order(" + i + ", " + (i - 1) + ")"), 1L);
      Sentence.due("order of " + i + ", " + i, x.call("order(" + i + ", " + i + ")"), 0L);
    }
    x.all("value(10, -2, -4)", "value(11, 1, 2)", "from(12, -0x0p0)");
    x.done(0, "order(10, 11)");
    x.done(0, "order(12, 3)");
    x.done(-1, "order(0, 8)");
    x.done(1, "order(8, 0)");
  }

  private static void orderOfNothing() {
    Sentence.of(10, "CODE 1.");
    Odds x = new Odds();
    x.call("value(0, 0, 1)");
    x.refused(1, "order(0, 15)");
    x.refused(1, "order(15, 0)");
    x.refused(1, "order(15, 15)");
    x.call("nothing(0)");
    x.refused(1, "order(0, 0)");
  }

  private static void sign() {
    Sentence.of(11, "-1, 0, 1.");
    Odds x = new Odds();
    x.make(0, ONE.negate(), MOST);
    x.make(1, ONE, MOST);
    x.all("from(2, -0x0p0)", "value(3, MIN, -1)", "value(4, 1, MIN)");
    x.done(-1, "sign(0)");
    x.done(1, "sign(1)");
    x.done(0, "sign(2)");
    x.done(1, "sign(3)");
    x.done(-1, "sign(4)");
  }

  private static void signOfNothing() {
    Sentence.of(11, "CODE 1.");
    Odds x = new Odds();
    x.refused(1, "sign(0)");
    x.refused(1, "sign(15)");
    x.call("value(0, -1, 1)");
    x.done(-1, "sign(0)");
    x.call("nothing(0)");
    x.refused(1, "sign(0)");
  }

  private static void small() {
    Sentence.of(12, "Whether it is SMALL: 1, 0.");
    Odds x = new Odds();
    x.all("value(0, MAX, 1)", "value(1, 1, 1)");
    x.done(1, "small(0)");
    x.call("work(0, 0, 0, 1)");
    x.done(0, "small(0)");
    x.call("work(1, 0, 0, 1)");
    x.done(1, "small(0)");
    x.call("value(0, 1, MAX)");
    x.done(1, "small(0)");
    x.call("value(0, 1, MIN)");
    x.done(0, "small(0)");
    x.call("value(0, 2, MIN)");
    x.done(1, "small(0)");
    x.call("value(0, 0, 1)");
    x.done(1, "small(0)");
  }

  private static void smallOfNothing() {
    Sentence.of(12, "CODE 1.");
    Odds x = new Odds();
    x.refused(1, "small(0)");
    x.call("value(0, 1, 1)");
    x.done(1, "small(0)");
    x.call("nothing(0)");
    x.refused(1, "small(0)");
    x.refused(1, "small(15)");
  }

  private static void limbs() {
    Sentence.of(13, "How many LIMBS its ABOVE (part 0), BELOW (1) has.");
    Odds x = new Odds();
    String[] sets = {
      "0, 0, 1, 0, 1", "0, 1, 1, 1, 1", "0, 4294967295, 4294967294, 1, 1", "0, -4294967296, 4294967295, 2, 1", "0, 4294967295, 4294967296, 1, 2",
      "0, MIN, MAX, 2, 2", "0, MAX, MIN, 2, 2", "0, MIN, MIN, 1, 1"
    };
    for (String set : sets) {
      String[] words = set.split(", ");
      x.call("value(0, " + words[1] + ", " + words[2] + ")");
      x.done(Long.parseLong(words[3]), "limbs(0, 0)");
      x.done(Long.parseLong(words[4]), "limbs(0, 1)");
    }
    x.make(0, MOST, MOST.subtract(ONE));
    x.done(8, "limbs(0, 0)");
    x.done(8, "limbs(0, 1)");
    x.outside("limbs(0, -1)");
    x.outside("limbs(0, 2)");
  }

  private static void limbsOfNothing() {
    Sentence.of(13, "CODE 1.");
    Odds x = new Odds();
    x.refused(1, "limbs(0, 0)");
    x.refused(1, "limbs(15, 1)");
    x.call("value(0, 1, 1)");
    x.done(1, "limbs(0, 0)");
    x.call("nothing(0)");
    x.refused(1, "limbs(0, 0)");
    x.refused(1, "limbs(0, 1)");
  }

  private static void limb() {
    Sentence.of(14, "LIMB k of its ABOVE, BELOW: 0 to 2^32 - 1.");
    Odds x = new Odds();
    x.make(0, TWO.pow(224).subtract(TWO.pow(32)).negate(), TWO.pow(224).subtract(TWO.pow(32)).add(ONE));
    x.done(0, "limb(0, 0, 0)");
    x.done(1, "limb(0, 1, 0)");
    for (int k = 1; k < 7; k++) {
      x.done(0xffffffffL, "limb(0, 0, " + k + ")");
      x.done(0xffffffffL, "limb(0, 1, " + k + ")");
    }
    x.call("value(0, -2147483648, 4294967295)");
    x.done(0x80000000L, "limb(0, 0, 0)");
    x.done(0xffffffffL, "limb(0, 1, 0)");
    x.outside("limb(0, 2, 0)");
    x.outside("limb(0, -1, 0)");
  }

  private static void noSuchLimb() {
    Sentence.of(14, "CODES 1, 3.");
    Odds x = new Odds();
    x.make(0, TWO.pow(224).subtract(ONE), TWO.pow(224).subtract(TWO));
    x.done(0xffffffffL, "limb(0, 0, 6)");
    x.done(0xffffffffL, "limb(0, 1, 6)");
    for (String k : new String[] {"-1", "7", "8", "INT_MIN", "INT_MAX"}) {
      x.refused(3, "limb(0, 0, " + k + ")");
      x.refused(3, "limb(0, 1, " + k + ")");
    }
    x.call("value(1, 0, 1)");
    x.refused(3, "limb(1, 0, 0)");
    x.done(1, "limb(1, 1, 0)");
    x.refused(3, "limb(1, 1, 1)");
    x.make(2, MOST, ONE);
    x.done(0xffffffffL, "limb(2, 0, 7)");
    x.refused(3, "limb(2, 0, 8)");
    for (String k : new String[] {"-1", "0", "9", "INT_MIN", "INT_MAX"}) x.refused(1, "limb(3, 0, " + k + ")");
  }

  private static void round() {
    Sentence.of(15, "It times 10 to the power of n (0 to 18), ROUNDED.");
    Odds x = new Odds();
    x.call("value(0, 1, 3)");
    long threes = 0;
    for (int n = 0; n <= 18; n++) {
      x.done(threes, "round(0, " + n + ", 1)");
      x.done(threes + 1, "round(0, " + n + ", 2)");
      threes = threes * 10 + 3;
    }
    for (String n : new String[] {"-1", "19", "INT_MIN", "INT_MAX"}) x.outside("round(0, " + n + ", 0)");
    for (String way : new String[] {"-1", "4", "INT_MIN", "INT_MAX"}) x.outside("round(0, 0, " + way + ")");
    x.call("value(0, -1, 2000000000000000000)");
    for (int way = 0; way < 4; way++) x.done(way == 1 ? -1 : 0, "round(0, 18, " + way + ")");
    String tens = "1000000000000000000";
    roundedOrRefused(MOST, MOST.subtract(ONE), 18, tens, tens, "1000000000000000001", tens);
    roundedOrRefused(MOST.subtract(ONE).negate(), MOST, 18, "-999999999999999999", "-" + tens, "-999999999999999999", "-" + tens);
  }

  /** What is wanted of each way: an answer, or 7 for its CODE. */
  private static void roundedOrRefused(BigInteger above, BigInteger below, int n, String... want) {
    Odds x = new Odds();
    x.make(0, above, below);
    for (int way = 0; way < 4; way++) {
      String call = "round(0, " + n + ", " + way + ")";
      if (want[way].equals("7")) x.refused(7, call);
      else x.done(Odds.numberOf(want[way]), call);
    }
  }

  private static void roundRefused() {
    Sentence.of(15, "CODES 1, 7.");
    BigInteger least = TWO.pow(63);
    BigInteger tens = BigInteger.TEN.pow(18);
    roundedOrRefused(least.subtract(ONE), ONE, 0, "MAX", "MAX", "MAX", "MAX");
    roundedOrRefused(least, ONE, 0, "7", "7", "7", "7");
    roundedOrRefused(least.negate(), ONE, 0, "MIN", "MIN", "MIN", "MIN");
    roundedOrRefused(least.add(ONE).negate(), ONE, 0, "7", "7", "7", "7");
    roundedOrRefused(least.subtract(ONE), tens, 18, "MAX", "MAX", "MAX", "MAX");
    roundedOrRefused(least, tens, 18, "7", "7", "7", "7");
    roundedOrRefused(least.negate(), tens, 18, "MIN", "MIN", "MIN", "MIN");
    roundedOrRefused(least.multiply(TWO).subtract(ONE), TWO, 0, "MAX", "MAX", "7", "7");
    roundedOrRefused(least.multiply(TWO).add(ONE).negate(), TWO, 0, "MIN", "7", "MIN", "MIN");
    roundedOrRefused(least.multiply(BigInteger.valueOf(3)).subtract(ONE), BigInteger.valueOf(3), 0, "MAX", "MAX", "7", "7");
    roundedOrRefused(least.multiply(BigInteger.valueOf(3)).subtract(TWO), BigInteger.valueOf(3), 0, "MAX", "MAX", "7", "MAX");
    roundedOrRefused(least.multiply(BigInteger.valueOf(3)).add(TWO).negate(), BigInteger.valueOf(3), 0, "MIN", "7", "MIN", "7");
    roundedOrRefused(TWO.pow(64), ONE, 0, "7", "7", "7", "7");
    roundedOrRefused(TWO.pow(64).negate(), ONE, 0, "7", "7", "7", "7");
    roundedOrRefused(TWO.pow(65).subtract(ONE), TWO, 0, "7", "7", "7", "7");
    roundedOrRefused(MOST, ONE, 18, "7", "7", "7", "7");
    Odds x = new Odds();
    for (int way = 0; way < 4; way++) x.refused(1, "round(0, 18, " + way + ")");
  }

  private static void realIs(BigInteger above, BigInteger below, double notAbove, double notBelow) {
    Odds x = new Odds();
    x.make(0, above, below);
    x.done(Odds.bits(notAbove), "real(0, 0)");
    x.done(Odds.bits(notBelow), "real(0, 1)");
    x.make(0, above.negate(), below);
    x.done(Odds.bits(-notBelow), "real(0, 0)");
    x.done(Odds.bits(-notAbove), "real(0, 1)");
  }

  private static void real() {
    Sentence.of(16, "The bits of the greatest double not above it (end 0), the least not below it (1)");
    BigInteger twos = TWO.pow(255);
    BigInteger few = TWO.pow(53);
    realIs(ONE, ONE, 1, 1);
    realIs(twos, ONE, 0x1p255, 0x1p255);
    realIs(ONE, twos, 0x1p-255, 0x1p-255);
    realIs(twos.add(ONE), twos, 1, Math.nextUp(1.0));
    realIs(twos.subtract(ONE), twos, Math.nextDown(1.0), 1);
    realIs(MOST, ONE, 0x1.fffffffffffffp255, 0x1p256);
    realIs(ONE, MOST, 0x1p-256, 0x1.0000000000001p-256);
    realIs(MOST.subtract(TWO), MOST, Math.nextDown(1.0), 1);
    realIs(few.subtract(ONE), ONE, 0x1.fffffffffffffp52, 0x1.fffffffffffffp52);
    realIs(few.add(ONE), ONE, 0x1p53, 0x1.0000000000001p53);
    realIs(few.add(TWO), ONE, 0x1.0000000000001p53, 0x1.0000000000001p53);
    realIs(few.multiply(TWO).subtract(ONE), ONE, 0x1.fffffffffffffp53, 0x1p54);
    realIs(few.subtract(ONE).shiftLeft(203), ONE, 0x1.fffffffffffffp255, 0x1.fffffffffffffp255);
    realIs(few.subtract(ONE), twos, 0x1.fffffffffffffp-203, 0x1.fffffffffffffp-203);
    realIs(ONE, BigInteger.valueOf(10), Math.nextDown(0.1), 0.1);
  }

  private static void realOf0() {
    Sentence.of(16, "of 0 those of 0.0.");
    Odds x = new Odds();
    for (String zero : new String[] {"value(0, 0, -1)", "from(0, -0x0p0)"}) {
      x.call(zero);
      x.done(0, "real(0, 0)");
      x.done(0, "real(0, 1)");
    }
    x.outside("real(0, -1)");
    x.outside("real(0, 2)");
  }

  private static void realOfNothing() {
    Sentence.of(16, "CODE 1.");
    Odds x = new Odds();
    x.refused(1, "real(0, 0)");
    x.refused(1, "real(15, 1)");
    x.call("value(0, 1, 1)");
    x.done(Odds.bits(1), "real(0, 1)");
    x.call("nothing(0)");
    x.refused(1, "real(0, 1)");
  }

  private static void fromIs(String number, BigInteger above, BigInteger below) {
    Odds x = new Odds();
    x.done(above.signum(), "from(0, " + number + ")");
    x.is(0, above, below);
    if (above.signum() == 0) return;
    x.done(Odds.numberOf(number), "real(0, 0)");
    x.done(Odds.numberOf(number), "real(0, 1)");
  }

  private static void from() {
    Sentence.of(17, "A FRACTION is just the number that a double has by its bits, any that is a number and not infinite.");
    BigInteger mantissa = TWO.pow(53).subtract(ONE);
    fromIs("0", ZERO, ONE);
    fromIs("0x8000000000000000", ZERO, ONE);
    fromIs("0x1p0", ONE, ONE);
    fromIs("-0x1.8p-1", BigInteger.valueOf(-3), BigInteger.valueOf(4));
    fromIs("0x1.fffffffffffffp255", mantissa.shiftLeft(203), ONE);
    fromIs("-0x1.fffffffffffffp255", mantissa.shiftLeft(203).negate(), ONE);
    fromIs("0x1p255", TWO.pow(255), ONE);
    fromIs("-0x1p-255", ONE.negate(), TWO.pow(255));
    fromIs("0x1.8p-254", BigInteger.valueOf(3), TWO.pow(255));
    fromIs("0x1.fffffffffffffp-203", mantissa, TWO.pow(255));
    fromIs("0x1.0000000000001p-203", TWO.pow(52).add(ONE), TWO.pow(255));
    fromIs("0x1.0000000000002p-204", TWO.pow(51).add(ONE), TWO.pow(255));
    fromIs("0x1.fffffffffffffp52", mantissa, ONE);
    fromIs("0x1.fffffffffffffp51", mantissa, TWO);
  }

  private static void fromRefused() {
    Sentence.of(17, "CODES 7 (it is none such), 6.");
    Odds x = new Odds();
    x.call("value(0, 5, 7)");
    String[] none = {
      "Infinity", "-Infinity", "NaN", "0x7ff0000000000001", "0xfff0000000000001", "0x7fffffffffffffff", "0xffffffffffffffff", "0x7ff8000000000000"
    };
    for (String number : none) x.refused(7, "from(0, " + number + ")");
    String[] notWide = {
      "0x7fefffffffffffff", "0xffefffffffffffff", "0x1p256", "-0x1p256", "0x1.0000000000001p256", "0x1p-256", "-0x1p-256", "0x1.8p-255", "0x1.0000000000001p-204",
      "0x1.fffffffffffffp-204", "1", "0x8000000000000001", "0x000fffffffffffff", "0x0010000000000000", "0x0008000000000000"
    };
    for (String number : notWide) x.refused(6, "from(0, " + number + ")");
    x.is(0, 5, 7);
  }

  private static void exactIs(String text, String... want) {
    Odds x = new Odds();
    for (int i = 0; i < want.length; i++) {
      String call = text.replace("#", want[i].substring(0, 1));
      String answer = want[i].substring(3);
      if (answer.startsWith("CODE ")) x.refused(Long.parseLong(answer.substring(5)), call);
      else x.done(Odds.numberOf(answer), call);
    }
  }

  private static void exact() {
    Sentence.of(18, "Longs exactly: op 0 a + b, 1 a - b, 2 a b, 3 -a, 4 a as an int, 5 a / b towards 0, 6 what is left by that, 7 a / b to the greatest whole not above it.");
    exactIs("exact(#, 7, 2)", "0: 9", "1: 5", "2: 14", "3: -7", "4: 7", "5: 3", "6: 1", "7: 3");
    exactIs("exact(#, -7, 2)", "0: -5", "1: -9", "2: -14", "3: 7", "4: -7", "5: -3", "6: -1", "7: -4");
    exactIs("exact(#, 7, -2)", "0: 5", "1: 9", "2: -14", "3: -7", "4: 7", "5: -3", "6: 1", "7: -4");
    exactIs("exact(#, -7, -2)", "0: -9", "1: -5", "2: 14", "3: 7", "4: -7", "5: 3", "6: -1", "7: 3");
    exactIs("exact(#, -8, 2)", "5: -4", "6: 0", "7: -4");
    exactIs("exact(#, 7, -1)", "2: -7", "5: -7", "6: 0", "7: -7");
    exactIs("exact(#, -7, 1)", "2: -7", "5: -7", "6: 0", "7: -7");
    exactIs("exact(#, 1, 7)", "5: 0", "6: 1", "7: 0");
    exactIs("exact(#, -1, 7)", "5: 0", "6: -1", "7: -1");
    exactIs("exact(#, 0, -5)", "0: -5", "1: 5", "2: 0", "3: 0", "4: 0", "5: 0", "6: 0", "7: 0");
    exactIs("exact(#, MIN, 1)", "0: -9223372036854775807", "2: MIN", "5: MIN", "6: 0", "7: MIN");
    exactIs("exact(#, MIN, MIN)", "1: 0", "5: 1", "6: 0", "7: 1");
    exactIs("exact(#, MAX, MIN)", "0: -1", "5: 0", "6: MAX", "7: -1");
    exactIs("exact(#, MIN, MAX)", "0: -1", "5: -1", "6: -1", "7: -2");
    exactIs("exact(#, MAX, MAX)", "1: 0", "3: -9223372036854775807", "5: 1", "6: 0", "7: 1");
    exactIs("exact(#, 2147483647, 0)", "4: 2147483647");
    exactIs("exact(#, -2147483648, 0)", "4: -2147483648");
    exactIs("exact(#, -2000000001, 0)", "0: -2000000001", "4: -2000000001");
    Odds x = new Odds();
    for (String op : new String[] {"-1", "8", "INT_MIN", "INT_MAX"}) x.outside("exact(" + op + ", 1, 1)");
  }

  private static void exactRefused() {
    Sentence.of(18, "CODES 5, 7.");
    exactIs("exact(#, 9223372036854775806, 1)", "0: MAX");
    exactIs("exact(#, MAX, 1)", "0: CODE 7", "1: 9223372036854775806");
    exactIs("exact(#, MAX, -1)", "0: 9223372036854775806", "1: CODE 7", "2: -9223372036854775807", "5: -9223372036854775807", "7: -9223372036854775807");
    exactIs("exact(#, MIN, 1)", "1: CODE 7", "3: CODE 7");
    exactIs("exact(#, MIN, -1)", "0: CODE 7", "1: -9223372036854775807", "2: CODE 7", "5: CODE 7", "6: 0", "7: CODE 7");
    exactIs("exact(#, -1, MIN)", "0: CODE 7", "1: MAX", "2: CODE 7", "5: 0", "6: -1", "7: 0");
    exactIs("exact(#, 0, MIN)", "0: MIN", "1: CODE 7", "2: 0");
    exactIs("exact(#, -1, MAX)", "1: MIN", "0: 9223372036854775806");
    exactIs("exact(#, -2, MAX)", "1: CODE 7", "2: CODE 7");
    exactIs("exact(#, -9223372036854775807, -1)", "0: MIN", "2: MAX", "3: MAX", "5: MAX", "7: MAX");
    exactIs("exact(#, MAX, MAX)", "0: CODE 7", "2: CODE 7");
    exactIs("exact(#, MIN, MIN)", "0: CODE 7", "2: CODE 7");
    exactIs("exact(#, MIN, MAX)", "1: CODE 7", "2: CODE 7");
    exactIs("exact(#, 3037000499, 3037000500)", "2: 9223372033963249500");
    exactIs("exact(#, 3037000500, 3037000500)", "2: CODE 7");
    exactIs("exact(#, 4294967296, 2147483648)", "2: CODE 7");
    exactIs("exact(#, 4294967296, -2147483648)", "2: MIN");
    exactIs("exact(#, 4294967296, -2147483649)", "2: CODE 7");
    exactIs("exact(#, 4294967296, 4294967296)", "2: CODE 7");
    exactIs("exact(#, 2147483648, 0)", "4: CODE 7", "5: CODE 5", "6: CODE 5", "7: CODE 5");
    exactIs("exact(#, 2147483647, 0)", "4: 2147483647");
    exactIs("exact(#, -2147483648, 0)", "4: -2147483648");
    exactIs("exact(#, -2147483649, 0)", "4: CODE 7");
    exactIs("exact(#, 4294967296, 0)", "4: CODE 7", "2: 0");
    exactIs("exact(#, MIN, 0)", "0: MIN", "1: MIN", "2: 0", "3: CODE 7", "4: CODE 7", "5: CODE 5", "6: CODE 5", "7: CODE 5");
    exactIs("exact(#, MAX, 0)", "4: CODE 7");
    exactIs("exact(#, 0, 0)", "0: 0", "1: 0", "2: 0", "5: CODE 5", "6: CODE 5", "7: CODE 5");
  }

  public static void main(String[] args) throws IOException {
    Sentence.open();
    order();
    orderOfNothing();
    sign();
    signOfNothing();
    small();
    smallOfNothing();
    limbs();
    limbsOfNothing();
    limb();
    noSuchLimb();
    round();
    roundRefused();
    real();
    realOf0();
    realOfNothing();
    from();
    fromRefused();
    exact();
    exactRefused();
    Sentence.close(10, 18);
  }
}
