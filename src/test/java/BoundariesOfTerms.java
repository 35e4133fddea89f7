import java.io.IOException;
import java.math.BigInteger;
import java.util.ArrayList;
import java.util.List;

/** The sentences ahead of promise 1 that name a boundary case: the public face, FRACTIONS, LIMBS, ROWS, TO ROUND, CODES, OUTSIDE. */
public final class BoundariesOfTerms {
  private static final BigInteger ZERO = BigInteger.ZERO, ONE = BigInteger.ONE, TWO = BigInteger.TWO, MOST = Odds.MOST;
  private static final String[] NO_FRACTION = {"-1", "16", "INT_MIN", "INT_MAX"};
  private static final String[] NO_ROW = {"-1", "4", "INT_MIN", "INT_MAX"};
  /** Calls on the scene that are refused: those of row i tell CODE i. */
  private static final String[][] REFUSED = {
    {},
    {"copy(7, 9)", "copy(9, 9)", "work(0, 7, 9, 1)", "work(0, 7, 1, 9)", "work(1, 7, 9, 1)", "work(1, 7, 1, 9)",
      "work(2, 7, 9, 0)", "work(2, 7, 0, 9)", "work(3, 7, 9, 1)", "work(3, 7, 1, 9)", "work(4, 7, 9, 1)", "work(4, 7, 1, 9)",
      "work(5, 7, 9, 1)", "work(5, 7, 1, 9)", "work(0, 9, 9, 9)", "power(7, 9, 1)", "power(7, 9, 0)", "common(7, 9, 1)",
      "common(7, 1, 9)", "common(7, 9, 9)", "order(9, 1)", "order(1, 9)", "order(9, 9)", "sign(9)", "small(9)", "limbs(9, 0)",
      "limbs(9, 1)", "limb(9, 0, 0)", "limb(9, 1, 0)", "round(9, 0, 0)", "real(9, 0)", "real(9, 1)", "put(3, 0, 1)",
      "put(0, 0, 9)", "put(3, 0, 9)", "move(3, 0, 0, 0, 0)", "move(0, 0, 3, 0, 0)", "move(3, 0, 3, 0, 0)", "filled(3)",
      "sum(7, 3)", "sum(7, 1)", "one(3)", "one(1)", "pick(3, 1)", "pick(0, 9)", "pick(3, 9)", "pick(1, 7)"},
    {"common(7, 5, 1)", "common(7, 1, 5)", "common(7, 5, 2)", "common(7, 0, 6)"},
    {"limb(1, 0, 1)", "limb(1, 0, -1)", "limb(0, 0, 0)", "limb(4, 0, 8)", "limb(4, 1, 1)", "limb(6, 1, 8)",
      "limb(1, 1, INT_MAX)", "limb(1, 1, INT_MIN)", "put(0, 2, 1)", "put(0, -1, 1)", "put(2, 0, 1)", "put(0, INT_MAX, 1)",
      "put(0, INT_MIN, 1)", "move(0, -1, 1, 0, 1)", "move(0, 0, 1, -1, 1)", "move(0, 0, 1, 0, -1)", "move(0, 0, 1, 0, 3)",
      "move(1, 0, 0, 0, 3)", "move(1, 0, 1, 1, 3)", "move(1, 1, 1, 0, 3)", "move(2, 0, 2, 0, 1)"},
    {"row(0, -1)", "row(3, -1)", "row(0, INT_MIN)"},
    {"value(7, 1, 0)", "value(7, 0, 0)", "value(7, MIN, 0)", "work(3, 7, 1, 0)", "work(3, 7, 0, 0)", "work(3, 7, 4, 0)",
      "power(7, 0, -1)", "power(7, 0, -300)", "exact(5, 1, 0)", "exact(5, 0, 0)", "exact(6, 1, 0)", "exact(6, MIN, 0)",
      "exact(7, 1, 0)", "exact(7, 0, 0)"},
    {"work(0, 7, 4, 4)", "work(0, 7, 6, 4)", "work(1, 7, 6, 4)", "work(2, 7, 4, 7)", "work(3, 7, 4, 6)", "work(3, 7, 6, 7)",
      "power(7, 4, 2)", "power(7, 4, -2)", "power(7, 6, 2)", "power(7, 6, -2)", "power(7, 7, 256)", "from(7, 0x1p256)",
      "from(7, -0x1p256)", "from(7, 0x1p-256)", "sum(7, 0)", "one(0)", "pick(0, 4)"},
    {"round(4, 0, 0)", "round(3, 1, 0)", "from(7, NaN)", "from(7, Infinity)", "from(7, -Infinity)", "exact(0, MAX, 1)",
      "exact(1, MIN, 1)", "exact(2, MIN, -1)", "exact(3, MIN, 0)", "exact(4, 2147483648, 0)", "exact(5, MIN, -1)",
      "exact(7, MIN, -1)"}
  };

  private static void atMost512Calls() {
    Sentence.of(0, "An object is used for at most 512 calls after it has been made");
    Odds x = new Odds();
    x.all("value(0, 0, 1)", "value(1, 1, 3)");
    for (int i = 0; i < 509; i++) x.call("work(0, 0, 0, 1)");
    Sentence.due("call 512", x.call("round(0, 0, 2)"), 170L);
    Odds y = new Odds();
    for (int i = 0; i < 511; i++) y.call("binomial(15, 250, 125)");
    Sentence.due("call 512", y.call("grown()"), 511L);
    Odds z = new Odds();
    z.all("row(0, 10)", "value(0, 1, 10)");
    for (int i = 0; i < 509; i++) z.call("put(0, " + i % 10 + ", 0)");
    Sentence.due("call 512", z.call("one(0)"), 1L);
  }

  private static void constants() {
    Sentence.of(0, "public static final int NONE = -1, OUTSIDE = -2000000001;");
    Sentence.due("NONE", OddsFractions.NONE, -1);
    Sentence.due("OUTSIDE", OddsFractions.OUTSIDE, -2000000001);
  }

  private static void fractions0To15() {
    Sentence.of(0, "FRACTIONS 0 to 15 are NOTHING at first");
    Odds x = new Odds();
    for (int f = 0; f < 16; f++) Sentence.due("FRACTION " + f, x.fraction(f), "NOTHING");
    for (int f = 0; f < 16; f++) x.done(1, "value(" + f + ", " + (f + 1) + ", 1)");
    for (int f = 0; f < 16; f++) x.is(f, f + 1, 1);
    for (String f : NO_FRACTION) x.outside("sign(" + f + ")");
  }

  private static void withoutCommonPart() {
    Sentence.of(0, "whole numbers without a common part, BELOW above 0 (0 is 0 / 1).");
    Odds x = new Odds();
    x.all("value(1, 5, 7)", "value(2, 0, 1)", "value(3, -5, 7)", "value(4, 7, 5)", "row(0, 0)", "row(1, 2)", "put(1, 0, 1)", "put(1, 1, 3)");
    String[] zeros = {
      "value(0, 0, -9)", "value(0, 0, MIN)", "copy(0, 2)", "work(0, 0, 1, 3)", "work(1, 0, 1, 1)", "work(2, 0, 1, 2)", "work(3, 0, 2, 3)",
      "work(4, 0, 2, 1)", "work(5, 0, 3, 2)", "power(0, 2, 5)", "binomial(0, 3, 4)", "common(0, 2, 2)", "from(0, 0x0p0)", "from(0, -0x0p0)",
      "sum(0, 0)", "sum(0, 1)"
    };
    for (String zero : zeros) {
      x.call("value(0, 7, 5)");
      x.done(0, zero);
      x.is(0, 0, 1);
    }
    Odds y = new Odds();
    y.all("value(1, 5, 7)", "value(3, -5, 7)", "value(4, 7, 5)");
    String[] ones = {"value(0, MIN, MIN)", "value(0, -1, -1)", "work(3, 0, 1, 1)", "work(3, 0, 3, 3)", "work(2, 0, 1, 4)", "power(0, 3, 0)"};
    for (String one : ones) {
      y.done(1, one);
      y.is(0, 1, 1);
    }
    y.done(-1, "value(0, 6, -8)");
    y.is(0, -3, 4);
    y.done(-1, "power(0, 3, -1)");
    y.is(0, -7, 5);
    y.done(-1, "work(3, 0, 1, 3)");
    y.is(0, -1, 1);
  }

  private static void below2To256() {
    Sentence.of(0, "ABOVE without its sign, and BELOW, are below 2^256.");
    Odds x = new Odds();
    x.make(0, MOST, ONE);
    x.is(0, MOST, ONE);
    x.make(1, MOST.negate(), ONE);
    x.is(1, MOST.negate(), ONE);
    x.all("value(2, 1, 1)", "value(5, 2, 1)", "from(6, 0x1p-255)", "from(7, 0x1p255)", "from(8, -0x1p255)");
    x.refused(6, "work(0, 3, 0, 2)");
    x.refused(6, "work(1, 3, 1, 2)");
    x.refused(6, "work(0, 3, 7, 7)");
    x.refused(6, "work(0, 3, 8, 8)");
    x.refused(6, "work(1, 3, 8, 7)");
    x.refused(6, "work(2, 3, 7, 5)");
    x.refused(6, "work(2, 3, 8, 5)");
    x.refused(6, "work(3, 3, 6, 5)");
    x.done(1, "work(3, 4, 2, 0)");
    x.is(4, ONE, MOST);
    x.done(-1, "work(3, 4, 2, 1)");
    x.is(4, ONE.negate(), MOST);
    x.refused(6, "work(3, 3, 4, 5)");
    x.make(9, MOST, MOST.subtract(TWO));
    x.is(9, MOST, MOST.subtract(TWO));
    Sentence.due("FRACTION 3", x.fraction(3), "NOTHING");
  }

  private static void wholeIfBelowIs1() {
    Sentence.of(0, "A FRACTION is WHOLE, if BELOW is 1.");
    Odds x = new Odds();
    x.call("value(1, 0, 1)");
    String[] whole = {"value(0, 6, 3)", "value(0, 0, 5)", "value(0, -4, -2)", "value(0, MIN, 1)", "value(0, MAX, -1)", "from(0, 0x1p255)", "binomial(0, 250, 125)"};
    for (String made : whole) {
      x.call(made);
      x.done(x.call("sign(0)") == 0 ? 0 : 1, "common(2, 0, 1)");
    }
    String[] others = {"value(0, 1, 2)", "value(0, MAX, 2)", "value(0, 1, MIN)", "value(0, -7, 3)", "from(0, 0x1p-255)", "from(0, 0x1.8p0)"};
    for (String made : others) {
      x.call(made);
      x.refused(2, "common(2, 0, 1)");
    }
    x.make(0, MOST, MOST.subtract(ONE));
    x.refused(2, "common(2, 1, 0)");
  }

  private static void isSmall(BigInteger above, BigInteger below, int want) {
    Odds x = new Odds();
    x.make(0, above, below);
    x.is(0, above, below);
    x.done(want, "small(0)");
  }

  private static void smallBelow2To63() {
    Sentence.of(0, "It is SMALL, if both (ABOVE without its sign) are below 2^63.");
    BigInteger least = TWO.pow(63);
    BigInteger most = least.subtract(ONE);
    isSmall(ZERO, ONE, 1);
    isSmall(most, ONE, 1);
    isSmall(most.negate(), ONE, 1);
    isSmall(ONE, most, 1);
    isSmall(most, most.subtract(ONE), 1);
    isSmall(least, ONE, 0);
    isSmall(least.negate(), ONE, 0);
    isSmall(ONE, least, 0);
    isSmall(most, least, 0);
    isSmall(least, most, 0);
    isSmall(TWO.pow(64), ONE, 0);
    isSmall(ONE, TWO.pow(64), 0);
    isSmall(TWO.pow(64).add(ONE), ONE, 0);
    isSmall(ONE, TWO.pow(64).add(ONE), 0);
    isSmall(TWO.pow(255), ONE, 0);
    isSmall(MOST.negate(), ONE, 0);
    isSmall(ONE, MOST, 0);
  }

  private static void asManyLimbsAsItTakes() {
    Sentence.of(0, "LIMBS of a number without its sign: 32 bits each, the lowest first, as many as it takes (0: none).");
    for (int limbs = 1; limbs <= 8; limbs++) {
      Odds x = new Odds();
      BigInteger most = TWO.pow(32 * limbs).subtract(ONE);
      BigInteger least = TWO.pow(32 * (limbs - 1));
      x.make(0, most.negate(), ONE);
      x.done(limbs, "limbs(0, 0)");
      for (int k = 0; k < limbs; k++) x.done(0xffffffffL, "limb(0, 0, " + k + ")");
      x.make(1, least, ONE);
      x.done(limbs, "limbs(1, 0)");
      x.done(1, "limb(1, 0, " + (limbs - 1) + ")");
      x.make(2, ONE, most);
      x.done(limbs, "limbs(2, 1)");
      x.refused(3, "limb(2, 1, " + limbs + ")");
    }
    Odds y = new Odds();
    BigInteger rising = ZERO;
    for (int k = 7; k >= 0; k--) rising = rising.shiftLeft(32).add(BigInteger.valueOf(k + 1));
    y.make(0, rising, ONE);
    for (int k = 0; k < 8; k++) y.done(k + 1, "limb(0, 0, " + k + ")");
    y.call("value(1, 0, 7)");
    y.done(0, "limbs(1, 0)");
    y.done(1, "limbs(1, 1)");
  }

  private static void rows0To3() {
    Sentence.of(0, "ROWS 0 to 3 are NOTHING at first, or have 0 to 10 places, from 0 on");
    Odds x = new Odds();
    x.call("value(0, 1, 2)");
    for (int r = 0; r < 4; r++) x.refused(1, "filled(" + r + ")");
    for (int r = 0; r < 4; r++) {
      x.done(0, "row(" + r + ", 0)");
      x.done(0, "filled(" + r + ")");
      x.refused(3, "put(" + r + ", 0, 0)");
      x.done(10, "row(" + r + ", 10)");
      x.refused(3, "put(" + r + ", -1, 0)");
      x.done(1, "put(" + r + ", 0, 0)");
      x.done(1, "put(" + r + ", 9, 0)");
      x.refused(3, "put(" + r + ", 10, 0)");
      x.done(2, "filled(" + r + ")");
    }
    for (String r : NO_ROW) x.outside("filled(" + r + ")");
  }

  private static void asItWasWhenItCameThere() {
    Sentence.of(0, "each NOTHING or a FRACTION (as it was when it came there).");
    String[] changes = {
      "value(0, 9, 1)", "copy(0, 1)", "nothing(0)", "work(0, 0, 0, 0)", "work(2, 0, 0, 0)", "power(0, 0, 3)", "binomial(0, 9, 2)",
      "common(0, 1, 1)", "from(0, 0x1p3)", "sum(0, 0)"
    };
    for (String change : changes) {
      Odds x = new Odds();
      x.all("value(0, 2, 7)", "value(1, 3, 1)", "row(0, 2)", "put(0, 1, 0)", "row(1, 1)", "move(0, 1, 1, 0, 1)", "put(0, 0, 1)", change);
      Sentence.due("after " + change, x.places(0), " [3 / 1] [2 / 7]");
      Sentence.due("after " + change, x.places(1), " [2 / 7]");
      x.all("put(0, 1, 1)", "row(0, 0)");
      Sentence.due("after its ROW is another one", x.places(1), " [2 / 7]");
    }
  }

  private static void rounded(BigInteger above, BigInteger below, long... want) {
    Odds x = new Odds();
    x.make(0, above, below);
    for (int way = 0; way < 4; way++) x.done(want[way], "round(0, 0, " + way + ")");
  }

  private static void rounded(long above, long below, long... want) {
    rounded(BigInteger.valueOf(above), BigInteger.valueOf(below), want);
  }

  private static void toRoundByAWay() {
    Sentence.of(0, "0 towards 0, 1 to the greatest whole not above it, 2 to the least not below it, 3 to the nearest, of two the even one.");
    rounded(0, 1, 0, 0, 0, 0);
    rounded(2, 1, 2, 2, 2, 2);
    rounded(-3, 1, -3, -3, -3, -3);
    rounded(1, 2, 0, 0, 1, 0);
    rounded(3, 2, 1, 1, 2, 2);
    rounded(5, 2, 2, 2, 3, 2);
    rounded(7, 2, 3, 3, 4, 4);
    rounded(-1, 2, 0, -1, 0, 0);
    rounded(-3, 2, -1, -2, -1, -2);
    rounded(-5, 2, -2, -3, -2, -2);
    rounded(-7, 2, -3, -4, -3, -4);
    BigInteger half = TWO.pow(254);
    BigInteger whole = TWO.pow(255);
    rounded(half.add(ONE), whole, 0, 0, 1, 1);
    rounded(half.subtract(ONE), whole, 0, 0, 1, 0);
    rounded(half.add(ONE).negate(), whole, 0, -1, 0, -1);
    rounded(half.subtract(ONE).negate(), whole, 0, -1, 0, 0);
    rounded(MOST.subtract(ONE), MOST, 0, 0, 1, 1);
    rounded(MOST, MOST.subtract(ONE), 1, 1, 2, 1);
    rounded(MOST.subtract(ONE).negate(), MOST, 0, -1, 0, -1);
    rounded(MOST.negate(), MOST.subtract(ONE), -1, -2, -1, -1);
    rounded(ONE, MOST, 0, 0, 1, 0);
    rounded(ONE.negate(), MOST, 0, -1, 0, 0);
  }

  private static void eachCode() {
    String[] sentences = {
      "0 it was done", "1 there is NOTHING", "2 it is not WHOLE", "3 there is no such LIMB, place", "4 a number of places below 0",
      "5 it would be divided by 0", "6 a FRACTION would not be WIDE as told", "7 what it comes to is no long (of -2^63 to 2^63 - 1), int."
    };
    Sentence.of(0, sentences[0]);
    Odds x = Odds.scene();
    for (String[] call : Odds.DONE) x.done(Long.parseLong(call[0]), call[1]);
    for (int code = 1; code < sentences.length; code++) {
      Sentence.of(0, sentences[code]);
      for (String call : REFUSED[code]) Odds.scene().refused(code, call);
    }
  }

  private static void wideWithoutACommonPart() {
    Sentence.of(0, "6 a FRACTION would not be WIDE as told (ABOVE, BELOW without a common part)");
    BigInteger threes = BigInteger.valueOf(3).pow(161);
    Odds x = new Odds();
    x.all("value(0, 3, 1)", "power(0, 0, 161)", "from(1, 0x1p255)", "work(3, 2, 0, 1)", "work(3, 3, 1, 0)");
    x.is(2, threes, TWO.pow(255));
    x.is(3, TWO.pow(255), threes);
    x.done(1, "work(2, 4, 2, 3)");
    x.is(4, 1, 1);
    x.done(1, "work(3, 4, 2, 2)");
    x.is(4, 1, 1);
    x.done(1, "work(2, 4, 2, 1)");
    x.is(4, threes, ONE);
    x.refused(6, "work(2, 4, 2, 2)");
    x.refused(6, "work(3, 4, 2, 3)");
    x.done(0, "work(1, 4, 2, 2)");
    x.is(4, 0, 1);
    x.done(1, "work(0, 4, 2, 2)");
    x.is(4, threes, TWO.pow(254));
    x.done(1, "from(4, 0x1p-255)");
    x.is(4, ONE, TWO.pow(255));
    x.refused(6, "from(4, 0x1.8p-255)");
    Odds y = new Odds();
    y.make(0, TWO.pow(255), BigInteger.valueOf(3));
    y.make(1, TWO.pow(255).subtract(ONE), BigInteger.valueOf(3));
    y.done(1, "work(0, 2, 0, 1)");
    y.is(2, MOST.divide(BigInteger.valueOf(3)), ONE);
    y.refused(6, "work(0, 3, 0, 0)");
  }

  private static void refusedChangesNothing() {
    Sentence.of(0, "A call with a CODE above 0 answers 0 and changes nothing but CODE.");
    String before = Odds.scene().told();
    for (int code = 1; code < REFUSED.length; code++) {
      for (String call : REFUSED[code]) {
        Odds x = Odds.scene();
        x.refused(code, call);
        Sentence.due("all but CODE after " + call, x.told(), before);
      }
    }
  }

  private static void makersAnswerTheSign() {
    Sentence.of(0, "Calls that make a FRACTION answer -1, 0, 1: its sign.");
    Odds x = Odds.scene();
    String[][] makers = {
      {"-1", "value(8, 1, MIN)"}, {"0", "value(8, 0, -1)"}, {"1", "value(8, MIN, -1)"}, {"-1", "copy(8, 3)"}, {"0", "copy(8, 0)"},
      {"1", "copy(8, 4)"}, {"-1", "work(0, 8, 2, 0)"}, {"0", "work(1, 8, 4, 4)"}, {"1", "work(2, 8, 3, 2)"}, {"-1", "work(3, 8, 4, 3)"},
      {"-1", "work(4, 8, 3, 4)"}, {"0", "work(5, 8, 3, 0)"}, {"1", "work(5, 8, 3, 4)"}, {"-1", "power(8, 2, -3)"}, {"0", "power(8, 0, 300)"},
      {"1", "power(8, 2, -2)"}, {"0", "binomial(8, 0, 1)"}, {"1", "binomial(8, 0, 0)"}, {"0", "common(8, 0, 0)"}, {"1", "common(8, 3, 0)"},
      {"1", "common(8, 3, 3)"}, {"-1", "from(8, -0x1p-255)"}, {"0", "from(8, -0x0p0)"}, {"1", "from(8, 0x1p-255)"}, {"0", "sum(8, 2)"}
    };
    for (String[] maker : makers) {
      x.done(Long.parseLong(maker[0]), maker[1]);
      Sentence.due(maker[1] + ", its sign", x.call("sign(8)"), Long.parseLong(maker[0]));
    }
    x.call("put(1, 1, 3)");
    x.done(-1, "sum(8, 1)");
    x.call("put(1, 1, 7)");
    x.done(1, "sum(8, 1)");
  }

  /** Where the scene would tell a CODE for the other numbers of the call, so that OUTSIDE is seen to go ahead of it. */
  private static List<String> outsideCalls() {
    List<String> calls = new ArrayList<>();
    for (String f : NO_FRACTION) {
      for (String call : new String[] {
        "value(#, 1, 0)", "copy(#, 9)", "copy(7, #)", "nothing(#)", "work(3, #, 1, 0)", "work(3, 7, #, 0)", "work(3, 7, 9, #)", "power(#, 0, -1)",
        "power(7, #, -1)", "binomial(#, 5, 2)", "common(#, 9, 5)", "common(7, #, 5)", "common(7, 5, #)", "order(#, 9)", "order(9, #)", "sign(#)",
        "small(#)", "limbs(#, 0)", "limb(#, 0, -1)", "round(#, 0, 0)", "real(#, 0)", "from(#, NaN)", "from(#, 0x1p256)", "put(3, -1, #)",
        "put(0, 0, #)", "sum(#, 3)", "sum(#, 2)", "pick(3, #)", "pick(0, #)"
      }) calls.add(call.replace("#", f));
    }
    for (String r : NO_ROW) {
      for (String call : new String[] {
        "row(#, -1)", "row(#, 3)", "put(#, -1, 9)", "put(#, 0, 1)", "move(#, -1, 3, 0, 0)", "move(3, 0, #, 0, -1)", "move(0, 0, #, 0, 1)", "filled(#)",
        "sum(7, #)", "one(#)", "pick(#, 9)"
      }) calls.add(call.replace("#", r));
    }
    addOutside(calls, "work(#, 7, 9, 0)", "-1", "6");
    addOutside(calls, "work(#, 7, 1, 1)", "-1", "6");
    addOutside(calls, "power(7, 9, #)", "-301", "301");
    addOutside(calls, "power(7, 1, #)", "-301", "301");
    addOutside(calls, "binomial(7, #, 0)", "-1", "251");
    addOutside(calls, "binomial(7, #, -1)", "-1", "251");
    addOutside(calls, "limbs(9, #)", "-1", "2");
    addOutside(calls, "limb(9, #, -1)", "-1", "2");
    addOutside(calls, "round(9, #, 0)", "-1", "19");
    addOutside(calls, "round(9, 0, #)", "-1", "4");
    addOutside(calls, "real(9, #)", "-1", "2");
    addOutside(calls, "exact(#, MIN, 0)", "-1", "8");
    addOutside(calls, "row(0, #)", "11", "12");
    return calls;
  }

  private static void addOutside(List<String> calls, String call, String below, String above) {
    calls.add(call.replace("#", below));
    calls.add(call.replace("#", above));
    calls.add(call.replace("#", "INT_MAX"));
    if (!call.startsWith("row")) calls.add(call.replace("#", "INT_MIN"));
  }

  private static void outOfItsBounds() {
    Sentence.of(0, "that is out of its bounds answer OUTSIDE, ahead of all; CODE stays then.");
    String before = Odds.scene().told();
    for (String call : outsideCalls()) {
      Odds x = Odds.scene();
      x.outside(call);
      Sentence.due("all after " + call, x.told(), before);
    }
    String[] inside = {
      "value(0, 0, 1)", "value(15, 1, 1)", "work(2, 15, 15, 15)", "work(5, 0, 15, 0)", "power(0, 15, 300)", "power(15, 15, -300)", "binomial(0, 0, 0)",
      "binomial(15, 250, 250)", "common(0, 15, 15)", "common(15, 0, 0)", "order(15, 15)", "limbs(15, 0)", "limbs(15, 1)", "limb(15, 1, 0)", "round(15, 0, 0)",
      "round(15, 18, 3)", "real(15, 0)", "real(15, 1)", "exact(0, 0, 0)", "exact(7, 1, 1)", "row(0, 0)", "row(3, 10)", "put(3, 9, 15)", "move(3, 0, 3, 0, 10)",
      "filled(3)", "sum(15, 0)", "one(0)", "pick(0, 15)"
    };
    Odds y = new Odds();
    for (String call : inside) y.inside(call);
  }

  private static void notOfALimbOrPlace() {
    Sentence.of(0, "or another number (not of a LIMB or place)");
    Odds x = Odds.scene();
    for (String k : new String[] {"-1", "10", "11", "INT_MIN", "INT_MAX"}) {
      x.refused(3, "limb(4, 0, " + k + ")");
      x.refused(3, "put(0, " + k + ", 1)");
      x.refused(3, "move(0, " + k + ", 1, 0, 1)");
      x.refused(3, "move(0, 0, 1, " + k + ", 1)");
      x.refused(3, "move(0, 0, 1, 0, " + k + ")");
    }
    for (String k : new String[] {"-1", "251", "INT_MIN", "INT_MAX"}) x.done(0, "binomial(8, 250, " + k + ")");
    x.refused(4, "row(0, -1)");
    x.refused(4, "row(0, INT_MIN)");
  }

  public static void main(String[] args) throws IOException {
    Sentence.open();
    atMost512Calls();
    constants();
    fractions0To15();
    withoutCommonPart();
    below2To256();
    wholeIfBelowIs1();
    smallBelow2To63();
    asManyLimbsAsItTakes();
    rows0To3();
    asItWasWhenItCameThere();
    toRoundByAWay();
    eachCode();
    wideWithoutACommonPart();
    refusedChangesNothing();
    makersAnswerTheSign();
    outOfItsBounds();
    notOfALimbOrPlace();
    Sentence.close(0, 0);
  }
}
