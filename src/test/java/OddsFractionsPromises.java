/** Each promise by itself: ordinary inputs, the edges that the document names, and wrong inputs. */
public final class OddsFractionsPromises {
  private static final int OUT = OddsFractions.OUTSIDE;
  private static final long MIN = Long.MIN_VALUE, MAX = Long.MAX_VALUE;
  private static final int[] NO_FRACTION = {-1, 16, Integer.MIN_VALUE, Integer.MAX_VALUE};
  private static final int[] NO_ROW = {-1, 4, Integer.MIN_VALUE, Integer.MAX_VALUE};

  private static int wrong = 0;
  private static int promise = 0;

  private static void due(String what, long got, long want) {
    if (got == want) return;
    wrong++;
    System.out.println("promise " + promise + ": " + what + " answered " + got + ", due is " + want);
  }

  /** A call that can't be: it answers 0 and tells its CODE. */
  private static void refused(String what, OddsFractions x, long got, int code) {
    due(what, got, 0);
    due(what + ", CODE", x.code(), code);
  }

  private static void done(String what, OddsFractions x, long got, long want) {
    due(what, got, want);
    due(what + ", CODE", x.code(), 0);
  }

  /** The object's CODE is 5, so that a call which leaves CODE can be told from one that sets it. */
  private static OddsFractions withCode5() {
    OddsFractions x = new OddsFractions();
    x.value(15, 1, 0);
    return x;
  }

  private static void outside(String what, OddsFractions x, long got) {
    due(what, got, OUT);
    due(what + ", CODE", x.code(), 5);
  }

  /** Whether fraction a is above / below. */
  private static void is(OddsFractions x, int a, long above, long below) {
    OddsFractions y = new OddsFractions();
    y.value(0, above, below);
    due("sign of " + above + " / " + below, x.sign(a), y.sign(0));
    for (int part = 0; part < 2; part++) {
      due("limbs of " + above + " / " + below, x.limbs(a, part), y.limbs(0, part));
      for (int k = 0; k < y.limbs(0, part); k++) due("limb of " + above + " / " + below, x.limb(a, part, k), y.limb(0, part, k));
    }
  }

  private static void isNothing(OddsFractions x, int a) {
    refused("sign of NOTHING", x, x.sign(a), 1);
  }

  private static void newObject() {
    promise = 1;
    OddsFractions x = new OddsFractions();
    due("code", x.code(), 0);
    due("grown", x.grown(), 0);
    for (int a = 0; a < 16; a++) isNothing(x, a);
    for (int r = 0; r < 4; r++) refused("filled", x, x.filled(r), 1);
    due("NONE", OddsFractions.NONE, -1);
    due("OUTSIDE", OddsFractions.OUTSIDE, -2000000001);
    OddsFractions y = new OddsFractions();
    y.value(0, 1, 2);
    y.row(0, 2);
    isNothing(x, 0);
    refused("filled of another object", x, x.filled(0), 1);
  }

  private static void code() {
    promise = 2;
    OddsFractions x = withCode5();
    due("code", x.code(), 5);
    due("code again", x.code(), 5);
    x.nothing(0);
    due("code after nothing", x.code(), 5);
    x.grown();
    due("code after grown", x.code(), 5);
    x.value(16, 1, 1);
    due("code after OUTSIDE", x.code(), 5);
    x.binomial(0, 251, 1);
    due("code after binomial OUTSIDE", x.code(), 5);
    x.binomial(0, 5, 9);
    due("code after binomial", x.code(), 0);
    x.exact(5, 1, 0);
    x.value(0, 1, 1);
    due("code after value", x.code(), 0);
  }

  private static void value() {
    promise = 3;
    OddsFractions x = new OddsFractions();
    done("value", x, x.value(0, 6, 8), 1);
    is(x, 0, 3, 4);
    due("BELOW", x.limb(0, 1, 0), 4);
    done("value", x, x.value(15, 6, -8), -1);
    is(x, 15, -3, 4);
    done("value", x, x.value(1, -6, -8), 1);
    is(x, 1, 3, 4);
    done("value of 0", x, x.value(1, 0, MIN), 0);
    due("ABOVE of 0", x.limbs(1, 0), 0);
    due("BELOW of 0", x.limb(1, 1, 0), 1);
    done("value", x, x.value(2, MIN, MIN), 1);
    is(x, 2, 1, 1);
    done("value", x, x.value(2, MIN, -1), 1);
    due("LIMB 0", x.limb(2, 0, 0), 0);
    due("LIMB 1", x.limb(2, 0, 1), 1L << 31);
    done("value", x, x.value(2, MIN, 6), -1);
    due("LIMB 1", x.limb(2, 0, 1), 1L << 30);
    due("BELOW", x.limb(2, 1, 0), 3);
    done("value", x, x.value(2, MAX, MIN), -1);
    due("BELOW", x.limb(2, 1, 1), 1L << 31);
    refused("value by 0", x, x.value(0, 1, 0), 5);
    is(x, 0, 3, 4);
    refused("value of 0 by 0", x, x.value(0, 0, 0), 5);
    OddsFractions y = withCode5();
    for (int f : NO_FRACTION) {
      outside("value", y, y.value(f, 1, 1));
      outside("value by 0", y, y.value(f, 1, 0));
    }
  }

  private static void copy() {
    promise = 4;
    OddsFractions x = new OddsFractions();
    x.value(0, -7, 3);
    done("copy", x, x.copy(1, 0), -1);
    is(x, 1, -7, 3);
    x.value(0, 1, 2);
    is(x, 1, -7, 3);
    done("copy to itself", x, x.copy(0, 0), 1);
    is(x, 0, 1, 2);
    refused("copy of NOTHING", x, x.copy(0, 9), 1);
    is(x, 0, 1, 2);
    OddsFractions y = withCode5();
    for (int f : NO_FRACTION) {
      outside("copy", y, y.copy(f, 0));
      outside("copy", y, y.copy(0, f));
    }
  }

  private static void nothing() {
    promise = 5;
    OddsFractions x = withCode5();
    due("nothing", x.nothing(3), 0);
    for (int f : NO_FRACTION) outside("nothing", x, x.nothing(f));
    x.value(3, 0, 1);
    x.row(0, 1);
    x.put(0, 0, 3);
    due("nothing", x.nothing(3), 1);
    due("nothing again", x.nothing(3), 0);
    isNothing(x, 3);
    due("the place stays", x.filled(0), 1);
  }

  private static void worked(int act, long a, long b, long c, long d, long above, long below) {
    for (int alias = 0; alias < 3; alias++) {
      OddsFractions x = new OddsFractions();
      x.value(0, a, b);
      x.value(1, c, d);
      String what = "work " + act + " of " + a + " / " + b + ", " + c + " / " + d;
      done(what, x, x.work(act, alias, 0, 1), Long.signum(above));
      is(x, alias, above, below);
    }
  }

  private static void work() {
    promise = 6;
    worked(0, 1, 2, 1, 3, 5, 6);
    worked(0, 1, 6, 1, 3, 1, 2);
    worked(0, 1, 2, -1, 2, 0, 1);
    worked(0, 0, 1, -2, 7, -2, 7);
    worked(0, -1, 4, -1, 12, -1, 3);
    worked(1, 1, 2, 1, 3, 1, 6);
    worked(1, 1, 3, 1, 2, -1, 6);
    worked(1, 5, 9, 5, 9, 0, 1);
    worked(1, 0, 1, 5, 9, -5, 9);
    worked(2, 2, 3, 3, 4, 1, 2);
    worked(2, -2, 3, 3, 2, -1, 1);
    worked(2, -2, 3, -3, 7, 2, 7);
    worked(2, 0, 1, 3, 7, 0, 1);
    worked(3, 2, 3, 4, 9, 3, 2);
    worked(3, 2, 3, -4, 9, -3, 2);
    worked(3, 0, 1, -4, 9, 0, 1);
    worked(3, -1, 3, -1, 3, 1, 1);
    worked(4, 1, 2, 1, 3, 1, 3);
    worked(4, -1, 2, -1, 3, -1, 2);
    worked(4, 1, 2, 1, 2, 1, 2);
    worked(5, 1, 2, 1, 3, 1, 2);
    worked(5, -1, 2, -1, 3, -1, 3);
    worked(5, -1, 2, 0, 1, 0, 1);
    workOnItself();
    workRefused();
  }

  private static void workOnItself() {
    OddsFractions x = new OddsFractions();
    x.value(0, 3, 8);
    x.work(0, 0, 0, 0);
    is(x, 0, 3, 4);
    x.work(2, 0, 0, 0);
    is(x, 0, 9, 16);
    x.work(3, 0, 0, 0);
    is(x, 0, 1, 1);
    x.work(1, 0, 0, 0);
    is(x, 0, 0, 1);
  }

  private static void workRefused() {
    OddsFractions x = new OddsFractions();
    x.value(0, 0, 1);
    x.value(1, 2, 1);
    for (int act = 0; act < 6; act++) {
      refused("work with NOTHING", x, x.work(act, 2, 0, 9), 1);
      refused("work with NOTHING", x, x.work(act, 2, 9, 0), 1);
    }
    isNothing(x, 2);
    refused("work by 0", x, x.work(3, 1, 1, 0), 5);
    refused("work of 0 by 0", x, x.work(3, 1, 0, 0), 5);
    is(x, 1, 2, 1);
    x.power(3, 1, 255);
    refused("2^256", x, x.work(0, 3, 3, 3), 6);
    refused("2^256", x, x.work(2, 3, 3, 1), 6);
    done("2^255 is still there", x, x.limb(3, 0, 7), 1L << 31);
    OddsFractions y = withCode5();
    for (int f : NO_FRACTION) {
      outside("work", y, y.work(0, f, 0, 0));
      outside("work", y, y.work(0, 0, f, 0));
      outside("work", y, y.work(0, 0, 0, f));
    }
    for (int act : new int[] {-1, 6, Integer.MIN_VALUE, Integer.MAX_VALUE}) outside("work", y, y.work(act, 0, 0, 0));
    widest();
  }

  /** 2^256 - 1 is WIDE as told above and below, one more is not. */
  private static void widest() {
    OddsFractions x = new OddsFractions();
    x.value(0, 2, 1);
    x.value(1, 1, 1);
    x.power(2, 0, 255);
    x.work(1, 3, 2, 1);
    done("2^256 - 1", x, x.work(0, 3, 3, 2), 1);
    for (int k = 0; k < 8; k++) due("LIMB of 2^256 - 1", x.limb(3, 0, k), 0xffffffffL);
    refused("2^256", x, x.work(0, 4, 3, 1), 6);
    done("1 / (2^256 - 1)", x, x.work(3, 5, 1, 3), 1);
    due("LIMBS of it", x.limbs(5, 1), 8);
    refused("its half", x, x.work(3, 6, 5, 0), 6);
    done("(2^256 - 1) / 2^255", x, x.work(3, 6, 3, 2), 1);
    done("what is cut again is WIDE", x, x.work(2, 7, 6, 2), 1);
    due("LIMBS of it", x.limbs(7, 0), 8);
    refused("1 / (2^256 - 1) + 1 / 2^255", x, x.work(0, 8, 5, 2), 6);
    done("a sum whose BELOW is cut", x, x.work(0, 8, 5, 5), 1);
    due("ABOVE of it", x.limb(8, 0, 0), 2);
  }

  private static void powered(long a, long b, int n, long above, long below) {
    OddsFractions x = new OddsFractions();
    x.value(0, a, b);
    done("power " + n + " of " + a + " / " + b, x, x.power(1, 0, n), Long.signum(above));
    is(x, 1, above, below);
    x.power(0, 0, n);
    is(x, 0, above, below);
  }

  private static void power() {
    promise = 7;
    powered(2, 3, 3, 8, 27);
    powered(-2, 3, 3, -8, 27);
    powered(-2, 3, 4, 16, 81);
    powered(2, 3, -2, 9, 4);
    powered(-2, 3, -3, -27, 8);
    powered(-2, 3, -2, 9, 4);
    powered(5, 7, 1, 5, 7);
    powered(-5, 7, -1, -7, 5);
    powered(5, 7, 0, 1, 1);
    powered(-5, 7, 0, 1, 1);
    powered(0, 1, 0, 1, 1);
    powered(0, 1, 1, 0, 1);
    powered(0, 1, 300, 0, 1);
    powered(1, 1, 300, 1, 1);
    powered(-1, 1, 299, -1, 1);
    powered(-1, 1, -300, 1, 1);
    powered(-1, 1, -299, -1, 1);
    OddsFractions x = new OddsFractions();
    x.value(0, 0, 1);
    refused("power of 0", x, x.power(1, 0, -1), 5);
    refused("power of 0", x, x.power(1, 0, -300), 5);
    refused("power of NOTHING", x, x.power(1, 2, 0), 1);
    refused("power of NOTHING", x, x.power(1, 2, -1), 1);
    x.value(0, -2, 1);
    done("power", x, x.power(1, 0, 255), -1);
    due("LIMB 7", x.limb(1, 0, 7), 1L << 31);
    refused("power", x, x.power(1, 0, 256), 6);
    refused("power", x, x.power(1, 0, -256), 6);
    refused("power", x, x.power(1, 0, 300), 6);
    done("power", x, x.power(1, 0, -255), -1);
    due("LIMB 7 below", x.limb(1, 1, 7), 1L << 31);
    x.value(0, 1, 3);
    done("power", x, x.power(1, 0, 161), 1);
    refused("power", x, x.power(1, 0, 162), 6);
    OddsFractions y = withCode5();
    for (int f : NO_FRACTION) {
      outside("power", y, y.power(f, 0, 1));
      outside("power", y, y.power(0, f, 1));
    }
    for (int n : new int[] {-301, 301, Integer.MIN_VALUE, Integer.MAX_VALUE}) outside("power", y, y.power(0, 0, n));
  }

  private static void binomial() {
    promise = 8;
    OddsFractions x = new OddsFractions();
    int[][] ways = {{0, 0, 1}, {1, 0, 1}, {1, 1, 1}, {5, 2, 10}, {5, 3, 10}, {10, 5, 252}, {250, 0, 1}, {250, 1, 250}, {250, 249, 250}, {250, 250, 1}, {30, 15, 155117520}};
    for (int[] way : ways) {
      done("binomial", x, x.binomial(0, way[0], way[1]), 1);
      is(x, 0, way[2], 1);
    }
    done("binomial", x, x.binomial(0, 66, 33), 1);
    is(x, 0, 7219428434016265740L, 1);
    int[][] none = {{5, -1}, {5, 6}, {0, 1}, {0, -1}, {250, 251}, {250, Integer.MAX_VALUE}, {250, Integer.MIN_VALUE}};
    for (int[] way : none) {
      done("binomial", x, x.binomial(0, way[0], way[1]), 0);
      is(x, 0, 0, 1);
    }
    x.binomial(1, 249, 124);
    x.binomial(2, 249, 125);
    x.binomial(3, 250, 125);
    x.work(0, 4, 1, 2);
    due("250 over 125 by its two parts", x.order(3, 4), 0);
    OddsFractions y = withCode5();
    for (int f : NO_FRACTION) outside("binomial", y, y.binomial(f, 1, 1));
    for (int n : new int[] {-1, 251, Integer.MIN_VALUE, Integer.MAX_VALUE}) {
      outside("binomial", y, y.binomial(0, n, 1));
      outside("binomial", y, y.binomial(0, n, -1));
    }
  }

  private static void common() {
    promise = 9;
    OddsFractions x = new OddsFractions();
    long[][] sets = {{12, 18, 6}, {-12, 18, 6}, {-12, -18, 6}, {0, 7, 7}, {-7, 0, 7}, {0, 0, 0}, {1, MAX, 1}, {MIN, 12, 4}, {5, 5, 5}};
    for (long[] set : sets) {
      x.value(0, set[0], 1);
      x.value(1, set[1], 1);
      done("common", x, x.common(2, 0, 1), Long.signum(set[2]));
      is(x, 2, set[2], 1);
    }
    x.value(0, MIN, 1);
    x.common(0, 0, 0);
    is(x, 0, MIN, -1);
    x.value(3, 1, 2);
    refused("common", x, x.common(0, 0, 3), 2);
    refused("common", x, x.common(0, 3, 0), 2);
    refused("common", x, x.common(0, 0, 9), 1);
    refused("common", x, x.common(0, 9, 3), 1);
    refused("common", x, x.common(0, 3, 9), 1);
    is(x, 0, MIN, -1);
    OddsFractions y = withCode5();
    for (int f : NO_FRACTION) {
      outside("common", y, y.common(f, 0, 0));
      outside("common", y, y.common(0, f, 0));
      outside("common", y, y.common(0, 0, f));
    }
  }

  private static void order() {
    promise = 10;
    OddsFractions x = new OddsFractions();
    long[][] up = {{MIN, 1}, {-3, 2}, {-1, 1}, {-1, MAX}, {0, 1}, {1, MAX}, {1, 3}, {1, 2}, {MAX - 1, MAX}, {1, 1}, {MAX, MAX - 1}, {MAX, 1}, {MIN, -1}};
    for (int i = 0; i < up.length; i++) x.value(i, up[i][0], up[i][1]);
    for (int i = 0; i < up.length; i++) {
      for (int j = 0; j < up.length; j++) due("order", x.order(i, j), Integer.compare(i, j));
    }
    x.value(15, 1, 0);
    done("order", x, x.order(0, 1), -1);
    refused("order", x, x.order(0, 15), 1);
    refused("order", x, x.order(15, 0), 1);
    OddsFractions y = withCode5();
    for (int f : NO_FRACTION) {
      outside("order", y, y.order(f, 0));
      outside("order", y, y.order(0, f));
    }
  }

  private static void sign() {
    promise = 11;
    OddsFractions x = new OddsFractions();
    x.value(0, -1, 5);
    x.value(1, 0, 5);
    x.value(2, 1, 5);
    x.value(3, 1, 0);
    done("sign", x, x.sign(0), -1);
    done("sign", x, x.sign(1), 0);
    done("sign", x, x.sign(2), 1);
    refused("sign", x, x.sign(3), 1);
    OddsFractions y = withCode5();
    for (int f : NO_FRACTION) outside("sign", y, y.sign(f));
  }

  private static void small() {
    promise = 12;
    OddsFractions x = new OddsFractions();
    long[][] sets = {{0, 1, 1}, {MAX, 1, 1}, {-MAX, 1, 1}, {1, MAX, 1}, {MIN, 1, 0}, {MIN, -1, 0}, {1, MIN, 0}, {MIN, 2, 1}, {2, MIN, 1}, {MAX, MIN, 0}};
    for (long[] set : sets) {
      x.value(0, set[0], set[1]);
      done("small of " + set[0] + " / " + set[1], x, x.small(0), set[2]);
    }
    refused("small", x, x.small(1), 1);
    OddsFractions y = withCode5();
    for (int f : NO_FRACTION) outside("small", y, y.small(f));
  }

  private static void limbs() {
    promise = 13;
    OddsFractions x = new OddsFractions();
    long[][] sets = {{0, 1, 0, 1}, {1, 1, 1, 1}, {-1, 3, 1, 1}, {0xffffffffL, 2, 1, 1}, {-(1L << 32), 3, 2, 1}, {1, 1L << 32, 1, 2}, {3, MIN, 1, 2}, {MIN, 1, 2, 1}};
    for (long[] set : sets) {
      x.value(0, set[0], set[1]);
      done("limbs above of " + set[0] + " / " + set[1], x, x.limbs(0, 0), set[2]);
      done("limbs below of " + set[0] + " / " + set[1], x, x.limbs(0, 1), set[3]);
    }
    x.value(0, 2, 1);
    for (int n = 0; n < 256; n += 31) {
      x.power(1, 0, n);
      due("limbs of 2^" + n, x.limbs(1, 0), n / 32 + 1);
    }
    refused("limbs", x, x.limbs(9, 0), 1);
    OddsFractions y = withCode5();
    for (int f : NO_FRACTION) outside("limbs", y, y.limbs(f, 0));
    outside("limbs", y, y.limbs(0, -1));
    outside("limbs", y, y.limbs(0, 2));
  }

  private static void limb() {
    promise = 14;
    OddsFractions x = new OddsFractions();
    x.value(0, -((5L << 32) + 0xfffffffeL), 0x80000001L);
    done("limb", x, x.limb(0, 0, 0), 0xfffffffeL);
    done("limb", x, x.limb(0, 0, 1), 5);
    done("limb", x, x.limb(0, 1, 0), 0x80000001L);
    refused("limb", x, x.limb(0, 0, 2), 3);
    refused("limb", x, x.limb(0, 1, 1), 3);
    refused("limb", x, x.limb(0, 0, -1), 3);
    refused("limb", x, x.limb(0, 0, Integer.MAX_VALUE), 3);
    refused("limb", x, x.limb(0, 0, Integer.MIN_VALUE), 3);
    x.value(1, 0, 1);
    refused("limb of 0", x, x.limb(1, 0, 0), 3);
    refused("limb of NOTHING", x, x.limb(2, 0, 0), 1);
    refused("limb of NOTHING", x, x.limb(2, 0, -1), 1);
    OddsFractions y = withCode5();
    for (int f : NO_FRACTION) outside("limb", y, y.limb(f, 0, 0));
    outside("limb", y, y.limb(0, -1, 0));
    outside("limb", y, y.limb(0, 2, 0));
  }

  private static void rounded(long a, long b, int n, long down, long floor, long ceiling, long nearest) {
    OddsFractions x = new OddsFractions();
    x.value(0, a, b);
    long[] want = {down, floor, ceiling, nearest};
    for (int way = 0; way < 4; way++) done("round of " + a + " / " + b + " by " + way, x, x.round(0, n, way), want[way]);
  }

  private static void round() {
    promise = 15;
    rounded(5, 1, 0, 5, 5, 5, 5);
    rounded(0, 1, 18, 0, 0, 0, 0);
    rounded(1, 2, 0, 0, 0, 1, 0);
    rounded(3, 2, 0, 1, 1, 2, 2);
    rounded(5, 2, 0, 2, 2, 3, 2);
    rounded(-1, 2, 0, 0, -1, 0, 0);
    rounded(-3, 2, 0, -1, -2, -1, -2);
    rounded(-5, 2, 0, -2, -3, -2, -2);
    rounded(1, 3, 2, 33, 33, 34, 33);
    rounded(2, 3, 2, 66, 66, 67, 67);
    rounded(-2, 3, 2, -66, -67, -66, -67);
    rounded(-1, 3, 18, -333333333333333333L, -333333333333333334L, -333333333333333333L, -333333333333333333L);
    rounded(1, MAX, 18, 0, 0, 1, 0);
    rounded(9, 1, 18, 9000000000000000000L, 9000000000000000000L, 9000000000000000000L, 9000000000000000000L);
    rounded(MAX, 1, 0, MAX, MAX, MAX, MAX);
    rounded(MIN, 1, 0, MIN, MIN, MIN, MIN);
    rounded(MIN, 10, 1, MIN, MIN, MIN, MIN);
    roundRefused();
  }

  private static void roundRefused() {
    OddsFractions x = new OddsFractions();
    x.value(0, MIN, -1);
    refused("round", x, x.round(0, 0, 0), 7);
    x.value(0, 10, 1);
    refused("round", x, x.round(0, 18, 0), 7);
    x.value(0, -10, 1);
    refused("round", x, x.round(0, 18, 3), 7);
    x.value(0, MAX, 1);
    x.value(1, 1, 2);
    x.work(0, 2, 0, 1);
    done("2^63 - 1/2 down", x, x.round(2, 0, 0), MAX);
    done("2^63 - 1/2 floor", x, x.round(2, 0, 1), MAX);
    refused("2^63 - 1/2 up", x, x.round(2, 0, 2), 7);
    refused("2^63 - 1/2 to the even one", x, x.round(2, 0, 3), 7);
    x.value(0, MIN, 1);
    x.work(1, 2, 0, 1);
    done("-2^63 - 1/2 towards 0", x, x.round(2, 0, 0), MIN);
    refused("-2^63 - 1/2 floor", x, x.round(2, 0, 1), 7);
    done("-2^63 - 1/2 up", x, x.round(2, 0, 2), MIN);
    done("-2^63 - 1/2 to the even one", x, x.round(2, 0, 3), MIN);
    x.value(0, 2, 1);
    x.power(0, 0, 64);
    refused("2^64", x, x.round(0, 0, 0), 7);
    x.work(1, 0, 0, 1);
    refused("2^64 - 1/2 up goes over two limbs", x, x.round(0, 0, 2), 7);
    refused("round of NOTHING", x, x.round(9, 0, 0), 1);
    OddsFractions y = withCode5();
    for (int f : NO_FRACTION) outside("round", y, y.round(f, 0, 0));
    for (int n : new int[] {-1, 19, Integer.MIN_VALUE, Integer.MAX_VALUE}) outside("round", y, y.round(0, n, 0));
    for (int way : new int[] {-1, 4, Integer.MIN_VALUE, Integer.MAX_VALUE}) outside("round", y, y.round(0, 0, way));
  }

  private static void told(long a, long b, double not_above, double not_below) {
    OddsFractions x = new OddsFractions();
    x.value(0, a, b);
    done("real of " + a + " / " + b, x, x.real(0, 0), Double.doubleToRawLongBits(not_above));
    done("real of " + a + " / " + b, x, x.real(0, 1), Double.doubleToRawLongBits(not_below));
  }

  private static void real() {
    promise = 16;
    told(0, 1, 0.0, 0.0);
    told(1, 1, 1.0, 1.0);
    told(-3, 4, -0.75, -0.75);
    told(1, 3, 1 / 3.0, Math.nextUp(1 / 3.0));
    told(-1, 3, Math.nextDown(-1 / 3.0), -1 / 3.0);
    told(1, 10, Math.nextDown(0.1), 0.1);
    told(-1, 10, -0.1, Math.nextUp(-0.1));
    told((1L << 53) + 1, 1, 0x1p53, 0x1.0000000000001p53);
    told((1L << 53) - 1, 1, 0x1.fffffffffffffp52, 0x1.fffffffffffffp52);
    told((1L << 54) - 1, 1, 0x1.fffffffffffffp53, 0x1p54);
    told(MAX, 1, 0x1.fffffffffffffp62, 0x1p63);
    told(MIN, 1, -0x1p63, -0x1p63);
    told(1, MIN, -0x1p-63, -0x1p-63);
    told(MAX, MAX - 1, 1.0, Math.nextUp(1.0));
    told(MAX - 1, MAX, Math.nextDown(1.0), 1.0);
    OddsFractions x = new OddsFractions();
    x.value(0, 2, 1);
    x.value(1, 1, 1);
    x.power(2, 0, 255);
    done("real of 2^255", x, x.real(2, 0), Double.doubleToRawLongBits(0x1p255));
    x.work(1, 3, 2, 1);
    x.work(0, 3, 3, 2);
    done("real of 2^256 - 1", x, x.real(3, 0), Double.doubleToRawLongBits(0x1.fffffffffffffp255));
    done("real of 2^256 - 1", x, x.real(3, 1), Double.doubleToRawLongBits(0x1p256));
    x.work(3, 3, 1, 3);
    done("real of 1 / (2^256 - 1)", x, x.real(3, 0), Double.doubleToRawLongBits(0x1p-256));
    done("real of 1 / (2^256 - 1)", x, x.real(3, 1), Double.doubleToRawLongBits(0x1.0000000000001p-256));
    refused("real of NOTHING", x, x.real(9, 0), 1);
    OddsFractions y = withCode5();
    for (int f : NO_FRACTION) outside("real", y, y.real(f, 0));
    outside("real", y, y.real(0, -1));
    outside("real", y, y.real(0, 2));
  }

  private static void made(double d, long above, long below) {
    OddsFractions x = new OddsFractions();
    done("from " + d, x, x.from(0, Double.doubleToRawLongBits(d)), Long.signum(above));
    is(x, 0, above, below);
  }

  private static void from() {
    promise = 17;
    made(0.0, 0, 1);
    made(-0.0, 0, 1);
    made(1.0, 1, 1);
    made(-0.75, -3, 4);
    made(0.1, 3602879701896397L, 36028797018963968L);
    made(1e18, 1000000000000000000L, 1);
    made(-0x1p63, MIN, 1);
    made(0x1p-62, 1, 1L << 62);
    OddsFractions x = new OddsFractions();
    x.value(0, 5, 7);
    double[] none = {Double.NaN, Double.POSITIVE_INFINITY, Double.NEGATIVE_INFINITY};
    for (double d : none) refused("from " + d, x, x.from(0, Double.doubleToRawLongBits(d)), 7);
    refused("from a NaN", x, x.from(0, -1), 7);
    refused("from a NaN", x, x.from(0, 0x7ff0000000000001L), 7);
    double[] wide = {0x1p256, -0x1p256, 0x1p-256, 0x1.8p-255, Double.MAX_VALUE, Double.MIN_VALUE, -Double.MIN_VALUE, Double.MIN_NORMAL, 0x1.8p-1030};
    for (double d : wide) refused("from " + d, x, x.from(0, Double.doubleToRawLongBits(d)), 6);
    is(x, 0, 5, 7);
    double[] just = {0x1.fffffffffffffp255, -0x1.fffffffffffffp255, 0x1p-255, -0x1.8p-254, 0x1.fffffffffffffp-203, 0x1p255};
    for (double d : just) {
      done("from " + d, x, x.from(0, Double.doubleToRawLongBits(d)), (long) Math.signum(d));
      due("real of from " + d, x.real(0, 0), Double.doubleToRawLongBits(d));
      due("real of from " + d, x.real(0, 1), Double.doubleToRawLongBits(d));
    }
    refused("from with a BELOW of 2^256", x, x.from(0, Double.doubleToRawLongBits(0x1.fffffffffffffp-204)), 6);
    OddsFractions y = withCode5();
    for (int f : NO_FRACTION) {
      outside("from", y, y.from(f, 0));
      outside("from", y, y.from(f, -1));
    }
  }

  private static void exactly(int op, long a, long b, long want) {
    OddsFractions x = withCode5();
    done("exact " + op + " of " + a + ", " + b, x, x.exact(op, a, b), want);
  }

  private static void notExactly(int op, long a, long b, int code) {
    OddsFractions x = new OddsFractions();
    refused("exact " + op + " of " + a + ", " + b, x, x.exact(op, a, b), code);
  }

  private static void exact() {
    promise = 18;
    exactly(0, MAX, MIN, -1);
    exactly(0, MAX - 1, 1, MAX);
    notExactly(0, MAX, 1, 7);
    notExactly(0, MIN, -1, 7);
    exactly(1, MIN, -1, MIN + 1);
    exactly(1, -1, MAX, MIN);
    exactly(1, -1, MIN, MAX);
    notExactly(1, 0, MIN, 7);
    notExactly(1, MIN, 1, 7);
    exactly(2, 3037000499L, 3037000499L, 9223372030926249001L);
    exactly(2, 1L << 32, -(1L << 31), MIN);
    exactly(2, MIN, 1, MIN);
    exactly(2, 1, MIN, MIN);
    exactly(2, MIN, 0, 0);
    exactly(2, 0, MIN, 0);
    exactly(2, MAX, -1, -MAX);
    notExactly(2, MIN, -1, 7);
    notExactly(2, -1, MIN, 7);
    notExactly(2, 1L << 32, 1L << 31, 7);
    notExactly(2, 1L << 32, 1L << 32, 7);
    notExactly(2, MIN, MIN, 7);
    exactly(3, MAX, 0, -MAX);
    exactly(3, 0, 5, 0);
    notExactly(3, MIN, 0, 7);
    exactly(4, Integer.MAX_VALUE, 0, Integer.MAX_VALUE);
    exactly(4, Integer.MIN_VALUE, 0, Integer.MIN_VALUE);
    notExactly(4, Integer.MAX_VALUE + 1L, 0, 7);
    notExactly(4, Integer.MIN_VALUE - 1L, 0, 7);
    notExactly(4, 1L << 32, 0, 7);
    exactly(5, -7, 2, -3);
    exactly(5, 7, -2, -3);
    exactly(5, MIN, 1, MIN);
    notExactly(5, MIN, -1, 7);
    notExactly(5, 0, 0, 5);
    exactly(6, -7, 2, -1);
    exactly(6, 7, -2, 1);
    exactly(6, MIN, -1, 0);
    notExactly(6, MIN, 0, 5);
    exactly(7, -7, 2, -4);
    exactly(7, 7, -2, -4);
    exactly(7, -7, -2, 3);
    exactly(7, -8, 2, -4);
    exactly(7, 0, -2, 0);
    exactly(7, MIN, 1, MIN);
    exactly(7, MIN, MAX, -2);
    notExactly(7, MIN, -1, 7);
    notExactly(7, 1, 0, 5);
    OddsFractions y = withCode5();
    for (int op : new int[] {-1, 8, Integer.MIN_VALUE, Integer.MAX_VALUE}) outside("exact", y, y.exact(op, 1, 0));
  }

  private static void row() {
    promise = 19;
    OddsFractions x = new OddsFractions();
    for (int n = 0; n <= 10; n++) {
      done("row", x, x.row(3, n), n);
      done("filled", x, x.filled(3), 0);
      x.value(0, 1, 2);
      for (int k = 0; k < n; k++) due("put", x.put(3, k, 0), 1);
      refused("put", x, x.put(3, n, 0), 3);
      done("filled", x, x.filled(3), n);
    }
    refused("row", x, x.row(3, -1), 4);
    refused("row", x, x.row(3, Integer.MIN_VALUE), 4);
    done("filled", x, x.filled(3), 10);
    refused("another ROW", x, x.filled(2), 1);
    done("row anew", x, x.row(3, 10), 10);
    done("filled", x, x.filled(3), 0);
    OddsFractions y = withCode5();
    for (int r : NO_ROW) {
      outside("row", y, y.row(r, 1));
      outside("row", y, y.row(r, -1));
    }
    outside("row", y, y.row(0, 11));
    outside("row", y, y.row(0, Integer.MAX_VALUE));
    refused("row is NOTHING still", y, y.filled(0), 1);
  }

  private static void put() {
    promise = 20;
    OddsFractions x = new OddsFractions();
    x.value(0, 1, 2);
    refused("put in NOTHING", x, x.put(0, 0, 0), 1);
    refused("put in NOTHING", x, x.put(0, -1, 0), 1);
    x.row(0, 2);
    done("put", x, x.put(0, 0, 0), 1);
    done("put", x, x.put(0, 1, 0), 1);
    x.value(0, 1, 3);
    x.sum(1, 0);
    is(x, 1, 1, 1);
    refused("put of NOTHING", x, x.put(0, 0, 5), 1);
    refused("put of NOTHING nowhere", x, x.put(0, 2, 5), 1);
    refused("put nowhere", x, x.put(0, 2, 0), 3);
    refused("put nowhere", x, x.put(0, -1, 0), 3);
    refused("put nowhere", x, x.put(0, Integer.MAX_VALUE, 0), 3);
    refused("put nowhere", x, x.put(0, Integer.MIN_VALUE, 0), 3);
    x.sum(1, 0);
    is(x, 1, 1, 1);
    done("put anew", x, x.put(0, 0, 0), 1);
    x.sum(1, 0);
    is(x, 1, 5, 6);
    OddsFractions y = withCode5();
    for (int r : NO_ROW) outside("put", y, y.put(r, 0, 0));
    for (int f : NO_FRACTION) outside("put", y, y.put(0, 0, f));
  }

  /** ROW r holds the whole numbers 1, 2, 4 .. in its places. */
  private static OddsFractions withTwos(int r, int places) {
    OddsFractions x = new OddsFractions();
    x.row(r, places);
    for (int k = 0; k < places; k++) {
      x.value(0, 1L << k, 1);
      x.put(r, k, 0);
    }
    return x;
  }

  /** What place k of ROW r is: moved alone into ROW 3 and summed there. */
  private static void holds(OddsFractions x, int r, long... want) {
    for (int k = 0; k < want.length; k++) {
      x.row(3, 1);
      due("move of one", x.move(r, k, 3, 0, 1), 1);
      due("filled of one", x.filled(3), want[k] == 0 ? 0 : 1);
      if (want[k] == 0) continue;
      x.sum(15, 3);
      is(x, 15, want[k], 1);
    }
  }

  private static void move() {
    promise = 21;
    OddsFractions x = withTwos(0, 5);
    done("move up in itself", x, x.move(0, 0, 0, 1, 4), 4);
    holds(x, 0, 1, 1, 2, 4, 8);
    x = withTwos(0, 5);
    done("move down in itself", x, x.move(0, 1, 0, 0, 4), 4);
    holds(x, 0, 2, 4, 8, 16, 16);
    done("move onto itself", x, x.move(0, 0, 0, 0, 5), 5);
    holds(x, 0, 2, 4, 8, 16, 16);
    x.row(1, 3);
    done("move to another", x, x.move(0, 2, 1, 1, 2), 2);
    holds(x, 1, 0, 8, 16);
    done("move of NOTHING", x, x.move(1, 0, 0, 4, 1), 1);
    holds(x, 0, 2, 4, 8, 16, 0);
    done("move of none", x, x.move(0, 5, 1, 3, 0), 0);
    int[][] no = {{-1, 0, 1}, {0, -1, 1}, {0, 0, -1}, {6, 0, 0}, {0, 4, 0}, {0, 0, 4}, {4, 0, 2}, {0, 2, 2},
      {Integer.MAX_VALUE, 0, 1}, {0, Integer.MAX_VALUE, 1}, {1, 1, Integer.MAX_VALUE}, {Integer.MIN_VALUE, 0, 1}, {0, 0, Integer.MIN_VALUE}};
    for (int[] set : no) refused("move of " + set[0] + ", " + set[1] + ", " + set[2], x, x.move(0, set[0], 1, set[1], set[2]), 3);
    holds(x, 0, 2, 4, 8, 16, 0);
    holds(x, 1, 0, 8, 16);
    refused("move from NOTHING", x, x.move(2, 0, 0, 0, 1), 1);
    refused("move to NOTHING", x, x.move(0, 0, 2, 0, -1), 1);
    OddsFractions y = withCode5();
    for (int r : NO_ROW) {
      outside("move", y, y.move(r, 0, 0, 0, 0));
      outside("move", y, y.move(0, 0, r, 0, 0));
    }
  }

  private static void filled() {
    promise = 22;
    OddsFractions x = new OddsFractions();
    refused("filled of NOTHING", x, x.filled(0), 1);
    x.row(0, 10);
    x.value(0, 0, 1);
    for (int k = 0; k < 10; k += 3) x.put(0, k, 0);
    done("filled", x, x.filled(0), 4);
    x.row(1, 0);
    done("filled", x, x.filled(1), 0);
    OddsFractions y = withCode5();
    for (int r : NO_ROW) outside("filled", y, y.filled(r));
  }

  private static void sum() {
    promise = 23;
    OddsFractions x = new OddsFractions();
    refused("sum of NOTHING", x, x.sum(0, 0), 1);
    x.row(0, 3);
    x.value(0, 1, 2);
    x.value(1, -1, 3);
    x.value(2, 1, 6);
    for (int k = 0; k < 2; k++) x.put(0, k, k);
    refused("sum with a place that is NOTHING", x, x.sum(5, 0), 1);
    isNothing(x, 5);
    x.put(0, 2, 2);
    done("sum", x, x.sum(5, 0), 1);
    is(x, 5, 1, 3);
    x.row(1, 0);
    done("sum of no places", x, x.sum(5, 1), 0);
    is(x, 5, 0, 1);
    wideSums();
    OddsFractions y = withCode5();
    for (int f : NO_FRACTION) outside("sum", y, y.sum(f, 0));
    for (int r : NO_ROW) outside("sum", y, y.sum(0, r));
  }

  /** 2^255 twice is not WIDE, though what comes after makes it so again. */
  private static void wideSums() {
    OddsFractions x = new OddsFractions();
    x.from(0, Double.doubleToRawLongBits(0x1p255));
    x.from(1, Double.doubleToRawLongBits(-0x1p255));
    x.row(0, 4);
    int[] places = {0, 0, 1, 1};
    for (int k = 0; k < 3; k++) x.put(0, k, places[k]);
    refused("a place that is NOTHING goes ahead", x, x.sum(2, 0), 1);
    refused("one, the same", x, x.one(0), 1);
    x.put(0, 3, 1);
    refused("sum", x, x.sum(2, 0), 6);
    refused("one", x, x.one(0), 6);
    isNothing(x, 2);
    x.put(0, 1, 1);
    x.put(0, 2, 0);
    done("sum in another order", x, x.sum(2, 0), 0);
    is(x, 2, 0, 1);
  }

  private static void one() {
    promise = 24;
    OddsFractions x = new OddsFractions();
    refused("one of NOTHING", x, x.one(0), 1);
    x.row(0, 0);
    done("one of no places", x, x.one(0), 0);
    x.row(0, 3);
    x.value(0, 1, 2);
    x.value(1, 1, 3);
    x.value(2, 1, 6);
    x.put(0, 0, 0);
    x.put(0, 1, 1);
    refused("one with a place that is NOTHING", x, x.one(0), 1);
    x.put(0, 2, 2);
    done("one", x, x.one(0), 1);
    x.put(0, 2, 1);
    done("one of 7 / 6", x, x.one(0), 0);
    x.value(3, -11, 6);
    x.put(0, 2, 3);
    done("one of -1", x, x.one(0), 0);
    x.row(1, 1);
    x.put(1, 0, 2);
    done("one of 1 / 6", x, x.one(1), 0);
    x.value(4, 6, 1);
    x.put(1, 0, 4);
    done("one of 6", x, x.one(1), 0);
    isNothing(x, 5);
    OddsFractions y = withCode5();
    for (int r : NO_ROW) outside("one", y, y.one(r));
  }

  private static void pick() {
    promise = 25;
    OddsFractions x = new OddsFractions();
    x.value(0, 1, 4);
    refused("pick of NOTHING", x, x.pick(0, 0), 1);
    x.row(0, 0);
    done("pick of no places", x, x.pick(0, 0), -1);
    x.row(0, 3);
    x.value(2, 0, 1);
    x.value(3, 3, 4);
    x.put(0, 0, 0);
    refused("pick of a place that is NOTHING", x, x.pick(0, 0), 1);
    done("pick before such a place", x, x.pick(0, 2), 0);
    refused("pick with NOTHING", x, x.pick(0, 9), 1);
    x.put(0, 1, 2);
    x.put(0, 2, 3);
    long[][] picks = {{-1, 1, 0}, {0, 1, 0}, {249, 1000, 0}, {1, 4, 2}, {1, 2, 2}, {999, 1000, 2}, {1, 1, -1}, {2, 1, -1}};
    for (long[] set : picks) {
      x.value(5, set[0], set[1]);
      done("pick by " + set[0] + " / " + set[1], x, x.pick(0, 5), set[2]);
    }
    x.from(6, Double.doubleToRawLongBits(0x1p255));
    x.value(8, 1, 1);
    x.put(0, 0, 8);
    x.put(0, 1, 6);
    x.put(0, 2, 6);
    done("pick before a sum that is not WIDE", x, x.pick(0, 2), 0);
    done("pick before a sum that is not WIDE", x, x.pick(0, 8), 1);
    x.work(0, 7, 6, 8);
    refused("pick", x, x.pick(0, 7), 6);
    x.row(1, 3);
    x.put(1, 0, 6);
    x.put(1, 1, 6);
    refused("the sum is come to ahead of the place", x, x.pick(1, 6), 6);
    OddsFractions y = withCode5();
    for (int r : NO_ROW) outside("pick", y, y.pick(r, 0));
    for (int f : NO_FRACTION) outside("pick", y, y.pick(0, f));
  }

  private static void grown() {
    promise = 26;
    OddsFractions x = withCode5();
    due("grown", x.grown(), 0);
    due("CODE stays", x.code(), 5);
    x.value(0, MAX, 1);
    due("grown", x.grown(), 0);
    x.value(1, MIN, 1);
    due("grown by value", x.grown(), 1);
    x.value(1, 1, MIN);
    due("grown by value", x.grown(), 2);
    x.copy(2, 1);
    x.nothing(2);
    due("not by copy, nothing", x.grown(), 2);
    x.work(0, 2, 0, 0);
    due("grown by work", x.grown(), 3);
    x.work(5, 3, 2, 0);
    due("grown by the greater", x.grown(), 4);
    x.work(4, 3, 2, 0);
    due("not by the lesser, which is SMALL", x.grown(), 4);
    x.work(0, 3, 9, 2);
    due("not by what is refused", x.grown(), 4);
    x.power(3, 0, 2);
    due("grown by power", x.grown(), 5);
    x.power(3, 0, 99);
    due("not by what is not WIDE", x.grown(), 5);
    x.binomial(4, 67, 33);
    due("grown by binomial", x.grown(), 6);
    x.binomial(4, 66, 33);
    due("not by binomial below 2^63", x.grown(), 6);
    x.common(5, 2, 2);
    due("grown by common", x.grown(), 7);
    x.from(5, Double.doubleToRawLongBits(0x1p63));
    due("grown by from", x.grown(), 8);
    x.row(0, 2);
    x.put(0, 0, 0);
    x.put(0, 1, 0);
    due("not by put", x.grown(), 8);
    x.one(0);
    x.pick(0, 0);
    due("not by one, pick", x.grown(), 8);
    x.sum(6, 0);
    due("grown by sum", x.grown(), 9);
    x.value(16, MIN, 1);
    due("not by OUTSIDE", x.grown(), 9);
    x.nothing(6);
    due("it does not shrink", x.grown(), 9);
  }

  public static void main(String[] args) {
    newObject();
    code();
    value();
    copy();
    nothing();
    work();
    power();
    binomial();
    common();
    order();
    sign();
    small();
    limbs();
    limb();
    round();
    real();
    from();
    exact();
    row();
    put();
    move();
    filled();
    sum();
    one();
    pick();
    grown();
    System.out.println(wrong == 0 ? "all answers are as due" : wrong + " answers are not as due");
    if (wrong != 0) System.exit(1);
  }
}
