import java.math.BigDecimal;
import java.math.BigInteger;
import java.math.MathContext;
import java.util.Random;

/** Seeded random runs of calls, each answer and CODE held against a plain model over BigInteger. */
public final class OddsFractionsAgainstModel {
  private static final int OUTSIDE = -2000000001;
  private static final BigInteger WIDE = BigInteger.ONE.shiftLeft(256);
  private static final BigInteger SMALL = BigInteger.ONE.shiftLeft(63);
  private static final long[] EDGES = {
    0, 1, -1, 2, -2, 3, 5, 7, 10, 12, -12, 30, 60, 250, 1L << 31, 1L << 32, (1L << 32) - 1, (1L << 32) + 1,
    1L << 62, -(1L << 62), Long.MAX_VALUE, Long.MIN_VALUE, Long.MIN_VALUE + 1, Long.MAX_VALUE - 1,
    Integer.MAX_VALUE, Integer.MIN_VALUE, 1L + Integer.MAX_VALUE, -1L + Integer.MIN_VALUE, 3037000499L, 3037000500L,
    1000000007L, 1000000000000000000L
  };
  private static final long[] LIMBS = {0, 1, 2, 0x7fffffffL, 0x80000000L, 0x80000001L, 0xfffffffeL, 0xffffffffL};

  private static int wrong = 0;
  private static int codesSeen = 0;

  /** A fraction of the model, always reduced. */
  private static final class Ratio {
    final BigInteger above;
    final BigInteger below;

    Ratio(BigInteger x, BigInteger y) {
      BigInteger g = x.gcd(y);
      if (y.signum() < 0) g = g.negate();
      above = x.divide(g);
      below = y.divide(g);
    }

    boolean isWide() {
      return above.abs().compareTo(WIDE) < 0 && below.compareTo(WIDE) < 0;
    }

    boolean isSmall() {
      return above.abs().compareTo(SMALL) < 0 && below.compareTo(SMALL) < 0;
    }

    boolean isWhole() {
      return below.equals(BigInteger.ONE);
    }

    Ratio plus(Ratio o) {
      return new Ratio(above.multiply(o.below).add(o.above.multiply(below)), below.multiply(o.below));
    }

    Ratio minus(Ratio o) {
      return plus(new Ratio(o.above.negate(), o.below));
    }

    Ratio times(Ratio o) {
      return new Ratio(above.multiply(o.above), below.multiply(o.below));
    }

    Ratio over(Ratio o) {
      return new Ratio(above.multiply(o.below), below.multiply(o.above));
    }

    int compareTo(Ratio o) {
      return above.multiply(o.below).compareTo(o.above.multiply(below));
    }

    BigInteger part(int part) {
      return part == 0 ? above.abs() : below;
    }
  }

  /** What the document says, in the plainest form. */
  private static final class Model {
    final Ratio[] fractions = new Ratio[16];
    final Ratio[][] rows = new Ratio[4][];
    int code = 0;
    int grown = 0;

    long tell(int c) {
      code = c;
      codesSeen |= 1 << c;
      return 0;
    }

    long done(long answer) {
      tell(0);
      return answer;
    }

    long make(int f, Ratio it) {
      if (!it.isWide()) return tell(6);
      fractions[f] = it;
      if (!it.isSmall()) grown++;
      return done(it.above.signum());
    }

    static boolean out(int x, int least, int most) {
      return x < least || x > most;
    }

    static boolean noF(int... fs) {
      for (int f : fs) if (out(f, 0, 15)) return true;
      return false;
    }

    static boolean noR(int... rs) {
      for (int r : rs) if (out(r, 0, 3)) return true;
      return false;
    }

    long value(int f, long above, long below) {
      if (noF(f)) return OUTSIDE;
      if (below == 0) return tell(5);
      return make(f, new Ratio(BigInteger.valueOf(above), BigInteger.valueOf(below)));
    }

    long copy(int f, int a) {
      if (noF(f, a)) return OUTSIDE;
      if (fractions[a] == null) return tell(1);
      fractions[f] = fractions[a];
      return done(fractions[a].above.signum());
    }

    long nothing(int f) {
      if (noF(f)) return OUTSIDE;
      long was = fractions[f] == null ? 0 : 1;
      fractions[f] = null;
      return was;
    }

    long work(int act, int f, int a, int b) {
      if (out(act, 0, 5) || noF(f, a, b)) return OUTSIDE;
      Ratio x = fractions[a];
      Ratio y = fractions[b];
      if (x == null || y == null) return tell(1);
      if (act == 3 && y.above.signum() == 0) return tell(5);
      Ratio z;
      if (act == 0) z = x.plus(y);
      else if (act == 1) z = x.minus(y);
      else if (act == 2) z = x.times(y);
      else if (act == 3) z = x.over(y);
      else if (act == 4) z = x.compareTo(y) < 0 ? x : y;
      else z = x.compareTo(y) > 0 ? x : y;
      return make(f, z);
    }

    long power(int f, int a, int n) {
      if (noF(f, a) || out(n, -300, 300)) return OUTSIDE;
      Ratio x = fractions[a];
      if (x == null) return tell(1);
      if (n < 0 && x.above.signum() == 0) return tell(5);
      int times = Math.abs(n);
      BigInteger above = x.above.pow(times);
      BigInteger below = x.below.pow(times);
      return make(f, n < 0 ? new Ratio(below, above) : new Ratio(above, below));
    }

    long binomial(int f, int n, int k) {
      if (noF(f) || out(n, 0, 250)) return OUTSIDE;
      BigInteger[] ways = new BigInteger[n + 2];
      java.util.Arrays.fill(ways, BigInteger.ZERO);
      ways[0] = BigInteger.ONE;
      for (int i = 1; i <= n; i++) for (int j = i; j > 0; j--) ways[j] = ways[j].add(ways[j - 1]);
      return make(f, new Ratio(k < 0 || k > n ? BigInteger.ZERO : ways[k], BigInteger.ONE));
    }

    long common(int f, int a, int b) {
      if (noF(f, a, b)) return OUTSIDE;
      Ratio x = fractions[a];
      Ratio y = fractions[b];
      if (x == null || y == null) return tell(1);
      if (!x.isWhole() || !y.isWhole()) return tell(2);
      return make(f, new Ratio(x.above.gcd(y.above), BigInteger.ONE));
    }

    long order(int a, int b) {
      if (noF(a, b)) return OUTSIDE;
      if (fractions[a] == null || fractions[b] == null) return tell(1);
      return done(fractions[a].compareTo(fractions[b]));
    }

    long sign(int a) {
      if (noF(a)) return OUTSIDE;
      return fractions[a] == null ? tell(1) : done(fractions[a].above.signum());
    }

    long small(int a) {
      if (noF(a)) return OUTSIDE;
      return fractions[a] == null ? tell(1) : done(fractions[a].isSmall() ? 1 : 0);
    }

    long limbs(int a, int part) {
      if (noF(a) || out(part, 0, 1)) return OUTSIDE;
      if (fractions[a] == null) return tell(1);
      return done((fractions[a].part(part).bitLength() + 31) / 32);
    }

    long limb(int a, int part, int k) {
      if (noF(a) || out(part, 0, 1)) return OUTSIDE;
      if (fractions[a] == null) return tell(1);
      BigInteger number = fractions[a].part(part);
      if (k < 0 || k >= (number.bitLength() + 31) / 32) return tell(3);
      return done(number.shiftRight(32 * k).longValue() & 0xffffffffL);
    }

    long round(int a, int n, int way) {
      if (noF(a) || out(n, 0, 18) || out(way, 0, 3)) return OUTSIDE;
      if (fractions[a] == null) return tell(1);
      BigInteger x = fractions[a].above.multiply(BigInteger.TEN.pow(n));
      BigInteger y = fractions[a].below;
      BigInteger floor = x.subtract(x.mod(y)).divide(y);
      BigInteger ceiling = x.mod(y).signum() == 0 ? floor : floor.add(BigInteger.ONE);
      BigInteger z;
      if (way == 0) z = x.divide(y);
      else if (way == 1) z = floor;
      else if (way == 2) z = ceiling;
      else {
        int order = x.mod(y).shiftLeft(1).compareTo(y);
        z = order < 0 ? floor : order > 0 ? ceiling : floor.testBit(0) ? ceiling : floor;
      }
      return z.bitLength() > 63 ? tell(7) : done(z.longValue());
    }

    long real(int a, int end) {
      if (noF(a) || out(end, 0, 1)) return OUTSIDE;
      if (fractions[a] == null) return tell(1);
      Ratio x = fractions[a];
      if (x.above.signum() == 0) return done(0);
      double near = new BigDecimal(x.above).divide(new BigDecimal(x.below), new MathContext(30)).doubleValue();
      if (end == 0) {
        double d = Math.nextUp(Math.nextUp(near));
        while (ratioOf(d).compareTo(x) > 0) d = Math.nextDown(d);
        return done(Double.doubleToRawLongBits(d));
      }
      double d = Math.nextDown(Math.nextDown(near));
      while (ratioOf(d).compareTo(x) < 0) d = Math.nextUp(d);
      return done(Double.doubleToRawLongBits(d));
    }

    static Ratio ratioOf(double d) {
      BigDecimal decimal = new BigDecimal(d);
      int scale = decimal.scale();
      BigInteger unscaled = decimal.unscaledValue();
      return scale >= 0 ? new Ratio(unscaled, BigInteger.TEN.pow(scale))
          : new Ratio(unscaled.multiply(BigInteger.TEN.pow(-scale)), BigInteger.ONE);
    }

    long from(int f, long bits) {
      if (noF(f)) return OUTSIDE;
      double d = Double.longBitsToDouble(bits);
      if (Double.isNaN(d) || Double.isInfinite(d)) return tell(7);
      return make(f, ratioOf(d));
    }

    long exact(int op, long a, long b) {
      if (out(op, 0, 7)) return OUTSIDE;
      BigInteger x = BigInteger.valueOf(a);
      BigInteger y = BigInteger.valueOf(b);
      if (op >= 5 && b == 0) return tell(5);
      BigInteger z;
      if (op == 0) z = x.add(y);
      else if (op == 1) z = x.subtract(y);
      else if (op == 2) z = x.multiply(y);
      else if (op == 3) z = x.negate();
      else if (op == 4) z = x;
      else if (op == 5) z = x.divide(y);
      else if (op == 6) z = x.remainder(y);
      else {
        BigInteger[] qr = x.divideAndRemainder(y);
        z = qr[1].signum() * y.signum() < 0 ? qr[0].subtract(BigInteger.ONE) : qr[0];
      }
      return z.bitLength() > (op == 4 ? 31 : 63) ? tell(7) : done(z.longValue());
    }

    long row(int r, int n) {
      if (noR(r) || n > 10) return OUTSIDE;
      if (n < 0) return tell(4);
      rows[r] = new Ratio[n];
      return done(n);
    }

    long put(int r, int k, int a) {
      if (noR(r) || noF(a)) return OUTSIDE;
      if (rows[r] == null || fractions[a] == null) return tell(1);
      if (k < 0 || k >= rows[r].length) return tell(3);
      rows[r][k] = fractions[a];
      return done(1);
    }

    long move(int r, int i, int q, int j, int n) {
      if (noR(r, q)) return OUTSIDE;
      if (rows[r] == null || rows[q] == null) return tell(1);
      if (i < 0 || j < 0 || n < 0) return tell(3);
      if ((long) i + n > rows[r].length || (long) j + n > rows[q].length) return tell(3);
      System.arraycopy(rows[r].clone(), i, rows[q], j, n);
      return done(n);
    }

    long filled(int r) {
      if (noR(r)) return OUTSIDE;
      if (rows[r] == null) return tell(1);
      int count = 0;
      for (Ratio it : rows[r]) if (it != null) count++;
      return done(count);
    }

    /** Null with the CODE told where there is no sum. */
    Ratio total(int r) {
      if (rows[r] == null) return none(1);
      for (Ratio it : rows[r]) if (it == null) return none(1);
      Ratio total = new Ratio(BigInteger.ZERO, BigInteger.ONE);
      for (Ratio it : rows[r]) {
        total = total.plus(it);
        if (!total.isWide()) return none(6);
      }
      return total;
    }

    Ratio none(int c) {
      tell(c);
      return null;
    }

    long sum(int f, int r) {
      if (noF(f) || noR(r)) return OUTSIDE;
      Ratio total = total(r);
      return total == null ? 0 : make(f, total);
    }

    long one(int r) {
      if (noR(r)) return OUTSIDE;
      Ratio total = total(r);
      return total == null ? 0 : done(total.isWhole() && total.above.equals(BigInteger.ONE) ? 1 : 0);
    }

    long pick(int r, int a) {
      if (noR(r) || noF(a)) return OUTSIDE;
      if (rows[r] == null || fractions[a] == null) return tell(1);
      Ratio total = new Ratio(BigInteger.ZERO, BigInteger.ONE);
      for (int k = 0; k < rows[r].length; k++) {
        if (rows[r][k] == null) return tell(1);
        total = total.plus(rows[r][k]);
        if (!total.isWide()) return tell(6);
        if (total.compareTo(fractions[a]) > 0) return done(k);
      }
      return done(-1);
    }
  }

  /** One object and its model, with the calls that were made so far. */
  private static final class Run {
    final OddsFractions x = new OddsFractions();
    final Model m = new Model();
    final StringBuilder calls = new StringBuilder();
    int made = 0;

    void due(String call, long got, long want) {
      calls.append("  ").append(call).append(" -> ").append(got).append('\n');
      made += 2;
      if (made > 512) throw new IllegalStateException("a run of more than 512 calls");
      int code = x.code();
      if (got == want && code == m.code) return;
      wrong++;
      if (wrong > 5) return;
      System.out.print(calls);
      System.out.println("  due is " + want + "; CODE " + code + ", due is " + m.code);
    }

    void value(int f, long a, long b) { due("value(" + f + ", " + a + ", " + b + ")", x.value(f, a, b), m.value(f, a, b)); }
    void copy(int f, int a) { due("copy(" + f + ", " + a + ")", x.copy(f, a), m.copy(f, a)); }
    void nothing(int f) { due("nothing(" + f + ")", x.nothing(f), m.nothing(f)); }
    void work(int t, int f, int a, int b) { due("work(" + t + ", " + f + ", " + a + ", " + b + ")", x.work(t, f, a, b), m.work(t, f, a, b)); }
    void power(int f, int a, int n) { due("power(" + f + ", " + a + ", " + n + ")", x.power(f, a, n), m.power(f, a, n)); }
    void binomial(int f, int n, int k) { due("binomial(" + f + ", " + n + ", " + k + ")", x.binomial(f, n, k), m.binomial(f, n, k)); }
    void common(int f, int a, int b) { due("common(" + f + ", " + a + ", " + b + ")", x.common(f, a, b), m.common(f, a, b)); }
    void order(int a, int b) { due("order(" + a + ", " + b + ")", x.order(a, b), m.order(a, b)); }
    void sign(int a) { due("sign(" + a + ")", x.sign(a), m.sign(a)); }
    void small(int a) { due("small(" + a + ")", x.small(a), m.small(a)); }
    void limbs(int a, int p) { due("limbs(" + a + ", " + p + ")", x.limbs(a, p), m.limbs(a, p)); }
    void limb(int a, int p, int k) { due("limb(" + a + ", " + p + ", " + k + ")", x.limb(a, p, k), m.limb(a, p, k)); }
    void round(int a, int n, int w) { due("round(" + a + ", " + n + ", " + w + ")", x.round(a, n, w), m.round(a, n, w)); }
    void real(int a, int e) { due("real(" + a + ", " + e + ")", x.real(a, e), m.real(a, e)); }
    void from(int f, long b) { due("from(" + f + ", " + b + ")", x.from(f, b), m.from(f, b)); }
    void exact(int o, long a, long b) { due("exact(" + o + ", " + a + ", " + b + ")", x.exact(o, a, b), m.exact(o, a, b)); }
    void row(int r, int n) { due("row(" + r + ", " + n + ")", x.row(r, n), m.row(r, n)); }
    void put(int r, int k, int a) { due("put(" + r + ", " + k + ", " + a + ")", x.put(r, k, a), m.put(r, k, a)); }
    void move(int r, int i, int q, int j, int n) { due("move(" + r + ", " + i + ", " + q + ", " + j + ", " + n + ")", x.move(r, i, q, j, n), m.move(r, i, q, j, n)); }
    void filled(int r) { due("filled(" + r + ")", x.filled(r), m.filled(r)); }
    void sum(int f, int r) { due("sum(" + f + ", " + r + ")", x.sum(f, r), m.sum(f, r)); }
    void one(int r) { due("one(" + r + ")", x.one(r), m.one(r)); }
    void pick(int r, int a) { due("pick(" + r + ", " + a + ")", x.pick(r, a), m.pick(r, a)); }
    void grown() { due("grown()", x.grown(), m.grown); }

    /** Every limb of a fraction, so that what is kept inside is held against the model too. */
    void look(int a) {
      for (int part = 0; part < 2; part++) {
        limbs(a, part);
        if (a < 0 || a > 15 || m.fractions[a] == null) continue;
        for (int k = 0; k * 32 < m.fractions[a].part(part).bitLength(); k++) limb(a, part, k);
      }
      sign(a);
    }
  }

  private static int without(Random random, int least, int most) {
    int[] all = {least - 1, most + 1, Integer.MIN_VALUE, Integer.MAX_VALUE};
    return all[random.nextInt(all.length)];
  }

  private static int fraction(Random random) {
    return random.nextInt(60) == 0 ? without(random, 0, 15) : random.nextInt(6) + (random.nextInt(12) == 0 ? 10 : 0);
  }

  private static int row(Random random) {
    return random.nextInt(60) == 0 ? without(random, 0, 3) : random.nextInt(random.nextInt(4) + 1);
  }

  private static int within(Random random, int least, int most) {
    return random.nextInt(40) == 0 ? without(random, least, most) : least + random.nextInt(most - least + 1);
  }

  private static int place(Random random) {
    return random.nextInt(40) == 0 ? without(random, 0, 10) : random.nextInt(6) - 1;
  }

  private static long number(Random random) {
    int kind = random.nextInt(6);
    if (kind == 0) return random.nextLong();
    if (kind <= 2) return EDGES[random.nextInt(EDGES.length)];
    if (kind == 3) return random.nextLong() >> random.nextInt(63);
    return random.nextInt(41) - 20;
  }

  private static long doubleBits(Random random) {
    int kind = random.nextInt(8);
    if (kind == 0) return random.nextLong();
    if (kind == 1) return Double.doubleToRawLongBits(random.nextInt(2001) / 16.0 - 60);
    if (kind == 2) return (0x7ffL << 52) | (random.nextBoolean() ? 0 : random.nextLong());
    if (kind == 3) return random.nextBoolean() ? 0 : Long.MIN_VALUE;
    long exponent = 1023 + random.nextInt(540) - 270;
    long mantissa = random.nextLong() >>> 12;
    mantissa &= -1L << random.nextInt(53);
    return (random.nextLong() & Long.MIN_VALUE) | (exponent << 52) | mantissa;
  }

  private static void anyMaking(Run run, Random random) {
    int f = fraction(random);
    int a = fraction(random);
    int b = fraction(random);
    switch (random.nextInt(12)) {
      case 0: case 1: case 2: run.value(f, number(random), number(random)); break;
      case 3: run.copy(f, a); break;
      case 4: if (random.nextInt(4) == 0) run.nothing(f); else run.grown(); break;
      case 5: case 6: case 7: run.work(within(random, 0, 5), f, a, b); break;
      case 8: run.power(f, a, random.nextBoolean() ? random.nextInt(13) - 6 : within(random, -300, 300)); break;
      case 9: run.binomial(f, within(random, 0, 250), within(random, -4, 255)); break;
      case 10: run.common(f, a, b); break;
      default: run.from(f, doubleBits(random)); break;
    }
  }

  private static void anyTelling(Run run, Random random) {
    int a = fraction(random);
    switch (random.nextInt(9)) {
      case 0: run.order(a, fraction(random)); break;
      case 1: run.sign(a); break;
      case 2: run.small(a); break;
      case 3: run.limbs(a, within(random, 0, 1)); break;
      case 4: run.limb(a, within(random, 0, 1), within(random, -1, 8)); break;
      case 5: run.round(a, random.nextBoolean() ? 0 : within(random, 0, 18), within(random, 0, 3)); break;
      case 6: case 7: run.real(a, within(random, 0, 1)); break;
      default: run.exact(within(random, 0, 7), number(random), number(random)); break;
    }
  }

  private static void anyRowCall(Run run, Random random) {
    int r = row(random);
    switch (random.nextInt(9)) {
      case 0: run.row(r, random.nextInt(5) == 0 ? within(random, -2, 11) : random.nextInt(4)); break;
      case 1: case 2: run.put(r, place(random), fraction(random)); break;
      case 3: run.move(r, place(random), row(random), place(random), place(random)); break;
      case 4: run.filled(r); break;
      case 5: run.sum(fraction(random), r); break;
      case 6: run.one(r); break;
      default: run.pick(r, fraction(random)); break;
    }
  }

  private static void anyRun(long seed) {
    Random random = new Random(seed);
    Run run = new Run();
    for (int i = 0; i < 110; i++) {
      int kind = random.nextInt(3);
      if (kind == 0) anyTelling(run, random);
      else if (kind == 1) anyMaking(run, random);
      else anyRowCall(run, random);
    }
    for (int a = 0; a < 6; a++) run.look(a);
    run.grown();
  }

  private static BigInteger pattern(Random random, int mostLimbs) {
    BigInteger number = BigInteger.ZERO;
    int count = 1 + random.nextInt(mostLimbs);
    for (int i = 0; i < count; i++) {
      long limb = random.nextInt(4) == 0 ? random.nextInt() & 0xffffffffL : LIMBS[random.nextInt(LIMBS.length)];
      number = number.shiftLeft(32).add(BigInteger.valueOf(limb));
    }
    return number;
  }

  /** Makes fraction f the number, by limbs; 14 and 15 are used for it. */
  private static void load(Run run, int f, BigInteger number) {
    run.value(15, 1L << 32, 1);
    run.value(f, 0, 1);
    for (int k = (number.bitLength() - 1) / 32; k >= 0; k--) {
      run.work(2, f, f, 15);
      run.value(14, number.shiftRight(32 * k).longValue() & 0xffffffffL, 1);
      run.work(0, f, f, 14);
    }
  }

  /** Limbs that are full, empty or half full are where long division goes wrong. */
  private static void limbRun(long seed) {
    Random random = new Random(seed);
    Run run = new Run();
    load(run, 0, pattern(random, 8));
    load(run, 1, pattern(random, 8));
    run.common(2, 0, 1);
    run.work(3, 2, 0, 1);
    run.look(2);
    for (int way = 0; way < 4; way++) run.round(2, random.nextInt(19), way);
    run.round(2, 0, 3);
    run.real(2, 0);
    run.real(2, 1);
    load(run, 3, pattern(random, 4));
    load(run, 4, pattern(random, 4));
    run.work(3, 5, 3, 4);
    for (int act = 0; act < 6; act++) run.work(act, 6 + act, 2, 5);
    run.order(2, 5);
    run.work(1, 6, 6, 5);
    run.look(6);
    run.look(8);
    run.grown();
  }

  /** Numbers that share a wide part, and neighbours among Fibonacci's, which take Euclid the most steps. */
  private static void sharedRun(long seed) {
    Random random = new Random(seed);
    Run run = new Run();
    boolean isFibonacci = random.nextInt(4) == 0;
    BigInteger x = isFibonacci ? BigInteger.ONE : pattern(random, 4);
    BigInteger y = isFibonacci ? BigInteger.ONE : pattern(random, 4);
    for (int i = random.nextInt(200); isFibonacci && i > 0; i--) {
      BigInteger z = x.add(y);
      x = y;
      y = z;
    }
    BigInteger shared = pattern(random, 3);
    load(run, 0, x.multiply(shared));
    load(run, 1, y.multiply(shared));
    run.common(2, 0, 1);
    run.look(2);
    run.common(2, 1, 0);
    run.work(3, 3, 0, 1);
    run.look(3);
    run.work(3, 4, 1, 0);
    run.work(2, 5, 3, 4);
    run.work(0, 6, 3, 4);
    run.look(6);
    run.work(1, 7, 6, 4);
    run.order(7, 3);
  }

  /** Rows of small odds, which come to one often. */
  private static void oddsRun(long seed) {
    Random random = new Random(seed);
    Run run = new Run();
    int places = random.nextInt(11);
    run.row(0, places);
    int whole = 1 + random.nextInt(60);
    int left = whole;
    for (int k = 0; k < places; k++) {
      int share = k == places - 1 ? left : random.nextInt(left + 1);
      left -= share;
      run.value(k, share, whole);
      run.put(0, k, k);
    }
    run.one(0);
    run.sum(15, 0);
    run.look(15);
    for (int i = 0; i < 20; i++) {
      run.value(14, random.nextInt(whole + 3) - 1, whole);
      run.pick(0, 14);
    }
    run.row(1, 10);
    run.move(0, 0, 1, 10 - places, places);
    for (int i = 0; i < 8; i++) run.move(1, random.nextInt(6), 1, random.nextInt(6), random.nextInt(6));
    run.filled(1);
    for (int i = 0; i < 4; i++) run.pick(1, 14);
    run.sum(13, 1);
    run.look(13);
  }

  /** Wide fractions with parts in common, whose sums often lose them again. */
  private static void wideRun(long seed) {
    Random random = new Random(seed);
    Run run = new Run();
    load(run, 0, pattern(random, 3));
    run.value(1, 1 + random.nextInt(1000), 1 + random.nextInt(1000));
    run.power(2, 1, random.nextInt(40) - 20);
    for (int i = 0; i < 60; i++) {
      run.work(random.nextInt(6), 2 + random.nextInt(8), random.nextInt(10), random.nextInt(10));
      if (random.nextInt(4) == 0) run.value(random.nextInt(10), number(random), number(random));
    }
    run.row(0, 4);
    for (int k = 0; k < 4; k++) run.put(0, k, random.nextInt(10));
    run.sum(10, 0);
    run.pick(0, random.nextInt(10));
    for (int a = 2; a < 10; a++) run.look(a);
  }

  public static void main(String[] args) {
    for (int seed = 0; seed < 4000; seed++) anyRun(seed);
    for (int seed = 0; seed < 4000; seed++) limbRun(seed);
    for (int seed = 0; seed < 4000; seed++) sharedRun(seed);
    for (int seed = 0; seed < 2000; seed++) oddsRun(seed);
    for (int seed = 0; seed < 2000; seed++) wideRun(seed);
    if (codesSeen != 0xff) {
      wrong++;
      System.out.println("not every CODE was met: " + Integer.toBinaryString(codesSeen));
    }
    System.out.println(wrong == 0 ? "all answers are as due" : wrong + " answers are not as due");
    if (wrong != 0) System.exit(1);
  }
}
