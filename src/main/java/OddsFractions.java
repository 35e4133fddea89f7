/** Odds as exact fractions. DOC.md tells what each call promises; the numbers below are its CODES. */
public final class OddsFractions {
  public static final int NONE = -1, OUTSIDE = -2000000001;

  private static final int FRACTION_COUNT = 16, ROW_COUNT = 4, MOST_PLACES = 10;
  private static final int MOST_POWER = 300, MOST_TAKEN_FROM = 250, MOST_TENS = 18;

  private static final int DONE = 0, IS_NOTHING = 1, NOT_WHOLE = 2, NO_SUCH_PLACE = 3;
  private static final int PLACES_BELOW_0 = 4, DIVIDED_BY_0 = 5, NOT_WIDE = 6, NO_LONG = 7;

  /** Written out, as LANGUAGE.md lists the functions of Long, not its constants. */
  private static final long LEAST_LONG = 1L << 63;

  private static final int PLUS = 0, MINUS = 1, TIMES = 2, OVER = 3, LESSER = 4, GREATER = 5;

  private final Fraction[] fractions;
  private final Row[] rows;
  private final Reckoner reckoner;
  private final Teller teller;
  private int lastCode;
  private int notSmall;

  public OddsFractions() {
    fractions = new Fraction[FRACTION_COUNT];
    rows = new Row[ROW_COUNT];
    for (int r = 0; r < rows.length; r++) rows[r] = new Row();
    reckoner = new Reckoner();
    teller = new Teller();
    lastCode = DONE;
    notSmall = 0;
  }

  public int code() {
    return lastCode;
  }

  public int value(int f, long above, long below) {
    if (isNoFraction(f)) return OUTSIDE;
    if (below == 0) return tell(DIVIDED_BY_0);
    reckoner.divideLongs(above, below);
    return make(f);
  }

  public int copy(int f, int a) {
    if (isNoFraction(f) || isNoFraction(a)) return OUTSIDE;
    Fraction it = fractionAt(a);
    if (it == null) return tell(IS_NOTHING);
    keep(f, it);
    return done(it.sign);
  }

  public int nothing(int f) {
    if (isNoFraction(f)) return OUTSIDE;
    int was = fractionAt(f) == null ? 0 : 1;
    keep(f, null);
    return was;
  }

  public int work(int act, int f, int a, int b) {
    if (isOut(act, PLUS, GREATER) || isNoFraction(f)) return OUTSIDE;
    if (isNoFraction(a) || isNoFraction(b)) return OUTSIDE;
    Fraction left = fractionAt(a);
    Fraction right = fractionAt(b);
    if (left == null || right == null) return tell(IS_NOTHING);
    if (act == OVER && right.sign == 0) return tell(DIVIDED_BY_0);
    workOut(act, left, right);
    return make(f);
  }

  public int power(int f, int a, int n) {
    if (isNoFraction(f) || isNoFraction(a) || isOut(n, -MOST_POWER, MOST_POWER)) return OUTSIDE;
    Fraction it = fractionAt(a);
    if (it == null) return tell(IS_NOTHING);
    if (n < 0 && it.sign == 0) return tell(DIVIDED_BY_0);
    if (!reckoner.raise(it, n)) return tell(NOT_WIDE);
    return make(f);
  }

  public int binomial(int f, int n, int k) {
    if (isNoFraction(f) || isOut(n, 0, MOST_TAKEN_FROM)) return OUTSIDE;
    reckoner.countWays(n, k);
    return make(f);
  }

  public int common(int f, int a, int b) {
    if (isNoFraction(f) || isNoFraction(a) || isNoFraction(b)) return OUTSIDE;
    Fraction left = fractionAt(a);
    Fraction right = fractionAt(b);
    if (left == null || right == null) return tell(IS_NOTHING);
    if (!left.isWhole() || !right.isWhole()) return tell(NOT_WHOLE);
    reckoner.findCommonWhole(left, right);
    return make(f);
  }

  public int order(int a, int b) {
    if (isNoFraction(a) || isNoFraction(b)) return OUTSIDE;
    Fraction left = fractionAt(a);
    Fraction right = fractionAt(b);
    if (left == null || right == null) return tell(IS_NOTHING);
    return done(reckoner.compare(left, right));
  }

  public int sign(int a) {
    if (isNoFraction(a)) return OUTSIDE;
    Fraction it = fractionAt(a);
    if (it == null) return tell(IS_NOTHING);
    return done(it.sign);
  }

  public int small(int a) {
    if (isNoFraction(a)) return OUTSIDE;
    Fraction it = fractionAt(a);
    if (it == null) return tell(IS_NOTHING);
    return done(it.isSmall() ? 1 : 0);
  }

  public int limbs(int a, int part) {
    if (isNoFraction(a) || isOut(part, 0, 1)) return OUTSIDE;
    Fraction it = fractionAt(a);
    if (it == null) return tell(IS_NOTHING);
    return done(it.partOf(part).size);
  }

  public long limb(int a, int part, int k) {
    if (isNoFraction(a) || isOut(part, 0, 1)) return OUTSIDE;
    Fraction it = fractionAt(a);
    if (it == null) return tell(IS_NOTHING);
    Natural number = it.partOf(part);
    if (isOut(k, 0, number.size - 1)) return tell(NO_SUCH_PLACE);
    tell(DONE);
    return number.at(k);
  }

  public long round(int a, int n, int way) {
    if (isNoFraction(a) || isOut(n, 0, MOST_TENS) || isOut(way, 0, 3)) return OUTSIDE;
    Fraction it = fractionAt(a);
    if (it == null) return tell(IS_NOTHING);
    teller.roundOff(it, n, way);
    if (!teller.isRoundedLong(it.sign)) return tell(NO_LONG);
    tell(DONE);
    return teller.roundedLong(it.sign);
  }

  public long real(int a, int end) {
    if (isNoFraction(a) || isOut(end, 0, 1)) return OUTSIDE;
    Fraction it = fractionAt(a);
    if (it == null) return tell(IS_NOTHING);
    tell(DONE);
    return teller.doubleBits(it, end);
  }

  public int from(int f, long bits) {
    if (isNoFraction(f)) return OUTSIDE;
    if (Teller.isNoNumber(bits)) return tell(NO_LONG);
    if (!reckoner.readDouble(bits)) return tell(NOT_WIDE);
    return make(f);
  }

  public long exact(int op, long a, long b) {
    if (isOut(op, Longs.SUM, Longs.FLOOR)) return OUTSIDE;
    if (Longs.divides(op) && b == 0) return tell(DIVIDED_BY_0);
    if (!Longs.fits(op, a, b)) return tell(NO_LONG);
    tell(DONE);
    return Longs.outcome(op, a, b);
  }

  public int row(int r, int n) {
    if (isNoRow(r) || n > MOST_PLACES) return OUTSIDE;
    if (n < 0) return tell(PLACES_BELOW_0);
    if (r >= 0 && r < rows.length && rows[r] != null) rows[r].empty(n);
    return done(n);
  }

  public int put(int r, int k, int a) {
    if (isNoRow(r) || isNoFraction(a)) return OUTSIDE;
    Row its = rowAt(r);
    Fraction it = fractionAt(a);
    if (its == null || it == null) return tell(IS_NOTHING);
    if (!its.hasPlaces(k, 1)) return tell(NO_SUCH_PLACE);
    its.hold(k, it);
    return done(1);
  }

  public int move(int r, int i, int q, int j, int n) {
    if (isNoRow(r) || isNoRow(q)) return OUTSIDE;
    Row source = rowAt(r);
    Row target = rowAt(q);
    if (source == null || target == null) return tell(IS_NOTHING);
    if (!source.hasPlaces(i, n) || !target.hasPlaces(j, n)) return tell(NO_SUCH_PLACE);
    target.take(j, source, i, n);
    return done(n);
  }

  public int filled(int r) {
    if (isNoRow(r)) return OUTSIDE;
    Row its = rowAt(r);
    if (its == null) return tell(IS_NOTHING);
    return done(its.countHeld());
  }

  public int sum(int f, int r) {
    if (isNoFraction(f) || isNoRow(r)) return OUTSIDE;
    int told = addUpRow(r);
    if (told != DONE) return tell(told);
    return make(f);
  }

  public int one(int r) {
    if (isNoRow(r)) return OUTSIDE;
    int told = addUpRow(r);
    if (told != DONE) return tell(told);
    return done(reckoner.answer.isOne() ? 1 : 0);
  }

  public int pick(int r, int a) {
    if (isNoRow(r) || isNoFraction(a)) return OUTSIDE;
    Row its = rowAt(r);
    Fraction bound = fractionAt(a);
    if (its == null || bound == null) return tell(IS_NOTHING);
    Fraction total = reckoner.answer;
    total.becomeWhole(0);
    for (int k = 0; k < its.places; k++) {
      Fraction next = its.heldAt(k);
      if (next == null) return tell(IS_NOTHING);
      reckoner.add(total, next, next.sign);
      if (!total.isWide()) return tell(NOT_WIDE);
      if (reckoner.compare(total, bound) > 0) return done(k);
    }
    return done(NONE);
  }

  public int grown() {
    return notSmall;
  }

  private static boolean isOut(int number, int least, int most) {
    return number < least || number > most;
  }

  private static boolean isNoFraction(int f) {
    return isOut(f, 0, FRACTION_COUNT - 1);
  }

  private static boolean isNoRow(int r) {
    return isOut(r, 0, ROW_COUNT - 1);
  }

  /** Null stands for NOTHING. */
  private Fraction fractionAt(int f) {
    return f >= 0 && f < fractions.length ? fractions[f] : null;
  }

  private void keep(int f, Fraction it) {
    if (f >= 0 && f < fractions.length) fractions[f] = it;
  }

  /** Null stands for NOTHING. */
  private Row rowAt(int r) {
    Row its = r >= 0 && r < rows.length ? rows[r] : null;
    return its != null && its.isThere() ? its : null;
  }

  private int tell(int code) {
    lastCode = code;
    return 0;
  }

  private int done(int answer) {
    lastCode = DONE;
    return answer;
  }

  /** Makes FRACTION f of what the reckoner came to, if that is WIDE as told. */
  private int make(int f) {
    Fraction answer = reckoner.answer;
    if (!answer.isWide()) return tell(NOT_WIDE);
    keep(f, answer.copied());
    if (!answer.isSmall()) notSmall++;
    return done(answer.sign);
  }

  private void workOut(int act, Fraction left, Fraction right) {
    switch (act) {
      case PLUS: reckoner.add(left, right, right.sign); break;
      case MINUS: reckoner.add(left, right, -right.sign); break;
      case TIMES: reckoner.multiply(left.sign * right.sign, left, right.above, right.below); break;
      case OVER: reckoner.multiply(left.sign * right.sign, left, right.below, right.above); break;
      case LESSER: reckoner.answer.become(reckoner.compare(left, right) <= 0 ? left : right); break;
      default: reckoner.answer.become(reckoner.compare(left, right) >= 0 ? left : right); break;
    }
  }

  /** The sum is the reckoner's answer; tells the CODE, of a place that is NOTHING ahead of any sum's. */
  private int addUpRow(int r) {
    Row its = rowAt(r);
    if (its == null || its.countHeld() < its.places) return IS_NOTHING;
    Fraction total = reckoner.answer;
    total.becomeWhole(0);
    for (int k = 0; k < its.places; k++) {
      Fraction next = its.heldAt(k);
      if (next == null) return IS_NOTHING;
      reckoner.add(total, next, next.sign);
      if (!total.isWide()) return NOT_WIDE;
    }
    return DONE;
  }

  /** A whole number of 0 or more: limbs of 32 bits, the lowest first, the highest not 0. */
  private static final class Natural {
    /** What a sum of two products of eight limbs takes, and what a division shifts it by. */
    static final int ROOM = 20;
    static final int LIMB_BITS = 32;
    static final long LIMB_MASK = 0xffffffffL;

    private final long[] parts;
    private int size;

    Natural(int room) {
      parts = new long[room < 0 ? 0 : room];
      size = 0;
    }

    /** Above the highest limb, and below the lowest, all is 0. */
    long at(int i) {
      return i >= 0 && i < size && i < parts.length ? parts[i] : 0;
    }

    void store(int i, long part) {
      if (i >= 0 && i < parts.length) parts[i] = part;
    }

    /** Adds limbs that are 0 on top, for store(); trim() takes off those that stay so. */
    void widen(int limbs) {
      int wanted = Math.min(limbs, parts.length);
      for (int i = size; i < wanted; i++) parts[i] = 0;
      size = Math.max(size, wanted);
    }

    void trim() {
      for (int i = size - 1; i >= 0 && at(i) == 0; i--) size = i;
    }

    void clear() {
      size = 0;
    }

    void become(Natural x) {
      size = Math.min(x.size, parts.length);
      for (int i = 0; i < size; i++) store(i, x.at(i));
    }

    /** The long is taken without a sign: 0 to 2^64 - 1. */
    void becomeLong(long x) {
      clear();
      widen(2);
      store(0, x & LIMB_MASK);
      store(1, x >>> LIMB_BITS);
      trim();
    }

    /** The two lowest limbs. */
    long lowLong() {
      return (at(1) << LIMB_BITS) | at(0);
    }

    /** The lowest limb of what is left without the lowest bits. */
    long bitsFrom(int dropped) {
      if (dropped < 0) return 0;
      int whole = dropped / LIMB_BITS;
      int left = dropped % LIMB_BITS;
      return ((at(whole) >>> left) | (at(whole + 1) << (LIMB_BITS - left))) & LIMB_MASK;
    }

    boolean isZero() {
      return size == 0;
    }

    boolean isOne() {
      return size == 1 && at(0) == 1;
    }

    boolean isOdd() {
      return (at(0) & 1) != 0;
    }

    int countBits() {
      return size == 0 ? 0 : (size - 1) * LIMB_BITS + countLimbBits(at(size - 1));
    }

    static int countLimbBits(long part) {
      int bits = part == 0 ? 0 : 1;
      for (int half = LIMB_BITS / 2; half > 0; half /= 2) {
        if ((part >>> (bits - 1 + half)) != 0) bits += half;
      }
      return bits;
    }

    int compareWith(Natural x) {
      if (size != x.size) return size < x.size ? -1 : 1;
      for (int i = size - 1; i >= 0; i--) {
        if (at(i) != x.at(i)) return at(i) < x.at(i) ? -1 : 1;
      }
      return 0;
    }

    void add(Natural x) {
      widen(Math.max(size, x.size) + 1);
      long carry = 0;
      for (int i = 0; i < size; i++) {
        long part = at(i) + x.at(i) + carry;
        store(i, part & LIMB_MASK);
        carry = part >>> LIMB_BITS;
      }
      trim();
    }

    /** Takes away x, which is not above this one. */
    void subtract(Natural x) {
      long borrow = 0;
      for (int i = 0; i < size; i++) {
        long part = at(i) - x.at(i) - borrow;
        store(i, part & LIMB_MASK);
        borrow = part < 0 ? 1 : 0;
      }
      trim();
    }

    /** Neither x nor y is this one. */
    void becomeProduct(Natural x, Natural y) {
      clear();
      widen(x.size + y.size);
      for (int i = 0; i < x.size; i++) {
        long carry = 0;
        long factor = x.at(i);
        for (int j = 0; j < y.size; j++) {
          long part = factor * y.at(j) + at(i + j) + carry;
          store(i + j, part & LIMB_MASK);
          carry = part >>> LIMB_BITS;
        }
        store(i + y.size, carry);
      }
      trim();
    }

    void multiplyByInt(int factor) {
      widen(size + 1);
      long carry = 0;
      for (int i = 0; i < size; i++) {
        long part = at(i) * factor + carry;
        store(i, part & LIMB_MASK);
        carry = part >>> LIMB_BITS;
      }
      trim();
    }

    /** Towards 0, by an int above 0. */
    void divideByInt(int divisor) {
      if (divisor <= 0) return;
      long rest = 0;
      for (int i = size - 1; i >= 0; i--) {
        long part = (rest << LIMB_BITS) | at(i);
        store(i, part / divisor);
        rest = part % divisor;
      }
      trim();
    }

    void shiftUp(int bits) {
      if (bits <= 0) return;
      int whole = bits / LIMB_BITS;
      int left = bits % LIMB_BITS;
      widen(size + whole + 1);
      for (int i = size - 1; i >= 0; i--) {
        long part = (at(i - whole) << left) | (at(i - whole - 1) >>> (LIMB_BITS - left));
        store(i, part & LIMB_MASK);
      }
      trim();
    }

    /** By less than a limb. */
    void shiftDown(int bits) {
      if (bits <= 0 || bits >= LIMB_BITS) return;
      for (int i = 0; i < size; i++) {
        long part = (at(i) >>> bits) | (at(i + 1) << (LIMB_BITS - bits));
        store(i, part & LIMB_MASK);
      }
      trim();
    }
  }

  /** ABOVE and BELOW without a common part. One that is kept is never changed, so places may share it. */
  private static final class Fraction {
    static final int WIDE_LIMBS = 8;
    static final int SMALL_BITS = 63;

    private final Natural above;
    private final Natural below;
    private int sign;

    Fraction(int roomAbove, int roomBelow) {
      above = new Natural(roomAbove);
      below = new Natural(roomBelow);
      sign = 0;
    }

    void become(Fraction x) {
      sign = x.sign;
      above.become(x.above);
      below.become(x.below);
    }

    void becomeWhole(long number) {
      sign = Long.compare(number, 0);
      above.becomeLong(number < 0 ? -number : number);
      below.becomeLong(1);
    }

    Fraction copied() {
      Fraction it = new Fraction(above.size, below.size);
      it.become(this);
      return it;
    }

    Natural partOf(int part) {
      return part == 0 ? above : below;
    }

    boolean isWhole() {
      return below.isOne();
    }

    boolean isOne() {
      return sign > 0 && above.isOne() && below.isOne();
    }

    boolean isSmall() {
      return above.countBits() <= SMALL_BITS && below.countBits() <= SMALL_BITS;
    }

    boolean isWide() {
      return above.size <= WIDE_LIMBS && below.size <= WIDE_LIMBS;
    }
  }

  /** Places of a ROW; it is NOTHING while their number is below 0. */
  private static final class Row {
    private final Fraction[] held;
    private int places;

    Row() {
      held = new Fraction[MOST_PLACES];
      places = -1;
    }

    boolean isThere() {
      return places >= 0;
    }

    void empty(int n) {
      places = Math.min(n, held.length);
      for (int k = 0; k < held.length; k++) held[k] = null;
    }

    /** Written with a difference, as a sum of any two ints could go round. */
    boolean hasPlaces(int first, int n) {
      return first >= 0 && n >= 0 && n <= places - first;
    }

    Fraction heldAt(int k) {
      return k >= 0 && k < held.length ? held[k] : null;
    }

    void hold(int k, Fraction it) {
      if (k >= 0 && k < held.length) held[k] = it;
    }

    /** Goes from that end on which, in the same row, no place is lost before it is taken. */
    void take(int j, Row source, int i, int n) {
      for (int step = 0; step < n && step < held.length; step++) {
        int k = j <= i ? step : n - 1 - step;
        hold(j + k, source.heldAt(i + k));
      }
    }

    int countHeld() {
      int count = 0;
      for (int k = 0; k < places && k < held.length; k++) {
        if (held[k] != null) count++;
      }
      return count;
    }
  }

  /** Long division by limbs (Knuth's algorithm D); what it comes to stays here until the next one. */
  private static final class Division {
    private final Natural divisor = new Natural(Natural.ROOM);
    private final Natural quotient = new Natural(Natural.ROOM);
    private final Natural rest = new Natural(Natural.ROOM);

    /** By 0 the quotient is 0; no caller divides by that. */
    void divide(Natural x, Natural y) {
      rest.become(x);
      quotient.clear();
      if (y.isZero() || x.compareWith(y) < 0) return;
      int shift = Natural.LIMB_BITS - Natural.countLimbBits(y.at(y.size - 1));
      divisor.become(y);
      divisor.shiftUp(shift);
      rest.shiftUp(shift);
      int places = rest.size - divisor.size + 1;
      rest.widen(rest.size + 1);
      quotient.widen(places);
      for (int k = places - 1; k >= 0; k--) {
        long digit = guessDigit(k + divisor.size);
        if (takeTimes(digit, k)) {
          digit--;
          giveBack(k);
        }
        quotient.store(k, digit);
      }
      quotient.trim();
      rest.trim();
      rest.shiftDown(shift);
    }

    /** The digit, or one above it: two limbs of the divisor do not always tell. */
    private long guessDigit(int top) {
      long first = divisor.at(divisor.size - 1);
      long second = divisor.at(divisor.size - 2);
      long leading = (rest.at(top) << Natural.LIMB_BITS) | rest.at(top - 1);
      long digit = rest.at(top) >= first ? Natural.LIMB_MASK : divideUnsigned(leading, first);
      long left = leading - digit * first;
      for (int i = 0; i < 2 && left <= Natural.LIMB_MASK; i++) {
        long following = (left << Natural.LIMB_BITS) | rest.at(top - 2);
        if (!isAboveUnsigned(digit * second, following)) break;
        digit--;
        left += first;
      }
      return digit;
    }

    /** Tells whether too much was taken. */
    private boolean takeTimes(long digit, int k) {
      long carry = 0;
      for (int j = 0; j < divisor.size; j++) {
        long product = digit * divisor.at(j) + carry;
        long part = rest.at(k + j) - (product & Natural.LIMB_MASK);
        carry = (product >>> Natural.LIMB_BITS) + (part < 0 ? 1 : 0);
        rest.store(k + j, part & Natural.LIMB_MASK);
      }
      long top = rest.at(k + divisor.size) - carry;
      rest.store(k + divisor.size, top & Natural.LIMB_MASK);
      return top < 0;
    }

    private void giveBack(int k) {
      long carry = 0;
      for (int j = 0; j <= divisor.size; j++) {
        long part = rest.at(k + j) + divisor.at(j) + carry;
        rest.store(k + j, part & Natural.LIMB_MASK);
        carry = part >>> Natural.LIMB_BITS;
      }
    }

    /** Of 64 bits without a sign by a divisor of 32; halved first, as Java's division has a sign. */
    private static long divideUnsigned(long x, long y) {
      if (y <= 0) return 0;
      long half = ((x >>> 1) / y) << 1;
      return x - half * y >= y ? half + 1 : half;
    }

    private static boolean isAboveUnsigned(long x, long y) {
      return x + LEAST_LONG > y + LEAST_LONG;
    }
  }

  /** Reckons with fractions that are kept; what it comes to is its answer, WIDE as told or not. */
  private static final class Reckoner {
    /** Far above the steps that Euclid takes for sixteen limbs. */
    private static final int MOST_STEPS = 1000000;
    private static final int POWER_BITS = 9;
    /** So few that factors of so many bits, times a limb, stay inside a long with its sign. */
    private static final int LEADING_BITS = 31;
    private static final int MOST_TWOS = 256;

    private final Fraction answer = new Fraction(Natural.ROOM, Natural.ROOM);
    private final Division division = new Division();
    private final Natural shared = new Natural(Natural.ROOM);
    private final Natural divided = new Natural(Natural.ROOM);
    private final Natural left = new Natural(Natural.ROOM);
    private final Natural right = new Natural(Natural.ROOM);
    private final Natural leftBelow = new Natural(Natural.ROOM);
    private final Natural rightBelow = new Natural(Natural.ROOM);

    void divideLongs(long above, long below) {
      answer.sign = Long.compare(above, 0) * Long.compare(below, 0);
      left.becomeLong(above < 0 ? -above : above);
      right.becomeLong(below < 0 ? -below : below);
      findCommon(left, right);
      divideInto(left, shared, answer.above);
      divideInto(right, shared, answer.below);
    }

    /** The sign of b is told apart, so that a difference is a sum too; a may be the answer, b not. */
    void add(Fraction a, Fraction b, int signOfB) {
      findCommon(a.below, b.below);
      divideInto(a.below, shared, leftBelow);
      divideInto(b.below, shared, rightBelow);
      left.becomeProduct(a.above, rightBelow);
      right.becomeProduct(b.above, leftBelow);
      answer.sign = addSigned(a.sign, signOfB);
      // What ABOVE and BELOW can still share is a part of what the two BELOWs shared.
      right.become(shared);
      findCommon(left, right);
      divideInto(left, shared, answer.above);
      divideInto(b.below, shared, right);
      answer.below.becomeProduct(leftBelow, right);
    }

    /** Left becomes left plus right without its sign, which is told. */
    private int addSigned(int signOfLeft, int signOfRight) {
      if (signOfLeft * signOfRight >= 0) {
        left.add(right);
        return signOfLeft != 0 ? signOfLeft : signOfRight;
      }
      int order = left.compareWith(right);
      if (order >= 0) {
        left.subtract(right);
        return order == 0 ? 0 : signOfLeft;
      }
      right.subtract(left);
      left.become(right);
      return signOfRight;
    }

    /** What is shared can only be shared crosswise. */
    void multiply(int sign, Fraction a, Natural above, Natural below) {
      findCommon(a.above, below);
      divideInto(a.above, shared, left);
      divideInto(below, shared, rightBelow);
      findCommon(above, a.below);
      divideInto(above, shared, right);
      divideInto(a.below, shared, leftBelow);
      answer.sign = sign;
      answer.above.becomeProduct(left, right);
      answer.below.becomeProduct(leftBelow, rightBelow);
    }

    /** Tells whether it is WIDE as told. */
    boolean raise(Fraction a, int n) {
      int times = n < 0 ? -n : n;
      answer.sign = times % 2 == 0 && (a.sign != 0 || times == 0) ? 1 : a.sign;
      return raiseInto(n < 0 ? a.below : a.above, times, answer.above)
          && raiseInto(n < 0 ? a.above : a.below, times, answer.below);
    }

    /** From the highest bit of n on, so that nothing on the way is above what it comes to. */
    private boolean raiseInto(Natural base, int n, Natural result) {
      result.becomeLong(1);
      for (int bit = POWER_BITS - 1; bit >= 0; bit--) {
        left.becomeProduct(result, result);
        result.become(left);
        if (result.size > Fraction.WIDE_LIMBS) return false;
        if (((n >> bit) & 1) != 0) {
          left.becomeProduct(result, base);
          result.become(left);
        }
        if (result.size > Fraction.WIDE_LIMBS) return false;
      }
      return true;
    }

    void countWays(int n, int k) {
      answer.becomeWhole(k < 0 || k > n ? 0 : 1);
      if (answer.sign == 0) return;
      int taken = Math.min(k, n - k);
      for (int i = 1; i <= taken; i++) {
        answer.above.multiplyByInt(n - taken + i);
        answer.above.divideByInt(i);
      }
    }

    void findCommonWhole(Fraction a, Fraction b) {
      findCommon(a.above, b.above);
      answer.above.become(shared);
      answer.below.becomeLong(1);
      answer.sign = shared.isZero() ? 0 : 1;
    }

    int compare(Fraction a, Fraction b) {
      if (a.sign != b.sign) return a.sign < b.sign ? -1 : 1;
      left.becomeProduct(a.above, b.below);
      right.becomeProduct(b.above, a.below);
      int order = left.compareWith(right);
      return a.sign < 0 ? -order : order;
    }

    /** The number of a double that is one; tells whether it is WIDE as told. */
    boolean readDouble(long bits) {
      int exponent = Teller.exponentOf(bits);
      long mantissa = bits & (Teller.HIDDEN_BIT - 1);
      if (exponent > 0) mantissa |= Teller.HIDDEN_BIT;
      int twos = Math.max(exponent, 1) - Teller.EXPONENT_OF_TWOS;
      for (int i = 0; i < Teller.MANTISSA_BITS && mantissa != 0 && (mantissa & 1) == 0; i++) {
        mantissa >>= 1;
        twos++;
      }
      answer.becomeWhole(bits < 0 ? -mantissa : mantissa);
      if (mantissa == 0) return true;
      // Looked at before it is shifted, as the limbs have no room for all that a double can be.
      if (twos >= MOST_TWOS || twos <= -MOST_TWOS) return false;
      answer.above.shiftUp(twos);
      answer.below.shiftUp(-twos);
      return answer.isWide();
    }

    /** The greatest number that divides both comes to be shared; of 0 and another that one. */
    private void findCommon(Natural x, Natural y) {
      boolean isInOrder = x.compareWith(y) >= 0;
      shared.become(isInOrder ? x : y);
      divided.become(isInOrder ? y : x);
      for (int i = 0; i < MOST_STEPS && !divided.isZero(); i++) {
        if (isShort(shared)) {
          shared.becomeLong(commonOfLongs(shared.lowLong(), divided.lowLong()));
          return;
        }
        if (leap()) continue;
        division.divide(shared, divided);
        shared.become(divided);
        divided.become(division.rest);
      }
    }

    /**
     * Takes all the steps that the leading bits are sure of in one (Lehmer's way), as most steps by whole
     * numbers would only take away a few bits; tells whether there were any.
     */
    private boolean leap() {
      int dropped = shared.countBits() - LEADING_BITS;
      long x = shared.bitsFrom(dropped);
      long y = divided.bitsFrom(dropped);
      long a = 1, b = 0, c = 0, d = 1;
      for (int i = 0; i < MOST_STEPS && y + c != 0 && y + d != 0; i++) {
        long times = (x + a) / (y + c);
        if (times != (x + b) / (y + d)) break;
        long nextC = a - times * c;
        long nextD = b - times * d;
        long nextY = x - times * y;
        a = c;
        b = d;
        x = y;
        c = nextC;
        d = nextD;
        y = nextY;
      }
      if (b == 0) return false;
      mix(a, b, c, d);
      return true;
    }

    /** Shared becomes a times itself and b times divided, divided the same by c and d. */
    private void mix(long a, long b, long c, long d) {
      long carryShared = 0;
      long carryDivided = 0;
      int size = shared.size;
      divided.widen(size);
      for (int i = 0; i < size; i++) {
        long x = shared.at(i);
        long y = divided.at(i);
        carryShared += a * x + b * y;
        carryDivided += c * x + d * y;
        shared.store(i, carryShared & Natural.LIMB_MASK);
        divided.store(i, carryDivided & Natural.LIMB_MASK);
        carryShared >>= Natural.LIMB_BITS;
        carryDivided >>= Natural.LIMB_BITS;
      }
      shared.trim();
      divided.trim();
    }

    /** Whether a long holds it with its sign. */
    private static boolean isShort(Natural x) {
      return x.size < 2 || x.size == 2 && x.lowLong() >= 0;
    }

    private static long commonOfLongs(long x, long y) {
      long result = x;
      long next = y;
      for (int i = 0; i < MOST_STEPS && next != 0; i++) {
        long rest = result % next;
        result = next;
        next = rest;
      }
      return result;
    }

    private void divideInto(Natural x, Natural y, Natural result) {
      if (y.isOne()) {
        result.become(x);
        return;
      }
      division.divide(x, y);
      result.become(division.quotient);
    }
  }

  /** Tells fractions as longs and as the bits of doubles. */
  private static final class Teller {
    static final int MANTISSA_BITS = 53;
    static final long HIDDEN_BIT = 1L << 52;
    /** The exponent in the bits of a double whose mantissa counts ones. */
    static final int EXPONENT_OF_TWOS = 1075;
    private static final int NO_NUMBER_EXPONENT = 0x7ff;
    private static final int TO_GREATEST_NOT_ABOVE = 1, TO_LEAST_NOT_BELOW = 2, TO_NEAREST = 3;

    private final Division division = new Division();
    private final Natural above = new Natural(Natural.ROOM);
    private final Natural below = new Natural(Natural.ROOM);

    /** What it comes to without its sign is the quotient of the division. */
    void roundOff(Fraction a, int n, int way) {
      long tens = 1;
      for (int i = 0; i < n; i++) tens *= 10;
      below.becomeLong(tens);
      above.becomeProduct(a.above, below);
      division.divide(above, a.below);
      if (!isFurtherFrom0(a, way)) return;
      above.becomeLong(1);
      division.quotient.add(above);
    }

    private boolean isFurtherFrom0(Fraction a, int way) {
      if (division.rest.isZero()) return false;
      switch (way) {
        case TO_GREATEST_NOT_ABOVE: return a.sign < 0;
        case TO_LEAST_NOT_BELOW: return a.sign > 0;
        case TO_NEAREST: return isNearerFurther(a.below);
        default: return false;
      }
    }

    private boolean isNearerFurther(Natural divisor) {
      above.become(division.rest);
      above.shiftUp(1);
      int order = above.compareWith(divisor);
      return order > 0 || order == 0 && division.quotient.isOdd();
    }

    boolean isRoundedLong(int sign) {
      if (division.quotient.size > 2) return false;
      long low = division.quotient.lowLong();
      return low >= 0 || sign < 0 && low == LEAST_LONG;
    }

    long roundedLong(int sign) {
      long low = division.quotient.lowLong();
      return sign < 0 ? -low : low;
    }

    /** All that is WIDE as told and not 0 lies where doubles have all 53 bits. */
    long doubleBits(Fraction a, int end) {
      if (a.sign == 0) return 0;
      int twos = MANTISSA_BITS - a.above.countBits() + a.below.countBits();
      above.become(a.above);
      below.become(a.below);
      above.shiftUp(twos);
      below.shiftUp(-twos);
      division.divide(above, below);
      long mantissa = division.quotient.lowLong();
      boolean isExact = division.rest.isZero();
      if (mantissa >= 2 * HIDDEN_BIT) {
        isExact = isExact && (mantissa & 1) == 0;
        mantissa >>= 1;
        twos--;
      }
      long bits = ((long) (EXPONENT_OF_TWOS - twos) << 52) + (mantissa - HIDDEN_BIT);
      boolean isFurther = (a.sign < 0) == (end == 0);
      // One more goes over into the exponent by itself where the mantissa is full.
      if (isFurther && !isExact) bits++;
      return a.sign < 0 ? bits | LEAST_LONG : bits;
    }

    static int exponentOf(long bits) {
      return (int) (bits >>> 52) & NO_NUMBER_EXPONENT;
    }

    static boolean isNoNumber(long bits) {
      return exponentOf(bits) == NO_NUMBER_EXPONENT;
    }
  }

  /** Longs, exactly: whether what an op comes to is a long (an int), and what that is. */
  private static final class Longs {
    static final int SUM = 0, DIFFERENCE = 1, PRODUCT = 2, OPPOSITE = 3;
    static final int AS_INT = 4, QUOTIENT = 5, REMAINDER = 6, FLOOR = 7;

    static boolean divides(int op) {
      return op == QUOTIENT || op == REMAINDER || op == FLOOR;
    }

    static boolean fits(int op, long a, long b) {
      switch (op) {
        case SUM: return ((a ^ (a + b)) & (b ^ (a + b))) >= 0;
        case DIFFERENCE: return ((a ^ b) & (a ^ (a - b))) >= 0;
        case PRODUCT: return isProductLong(a, b);
        case OPPOSITE: return a != LEAST_LONG;
        case AS_INT: return a == (int) a;
        case QUOTIENT:
        case FLOOR: return a != LEAST_LONG || b != -1;
        default: return true;
      }
    }

    /** A product by -1 is looked at apart: to divide it again would go round as it did. */
    private static boolean isProductLong(long a, long b) {
      if (b == -1) return a != LEAST_LONG;
      return b == 0 || a * b / b == a;
    }

    static long outcome(int op, long a, long b) {
      switch (op) {
        case SUM: return a + b;
        case DIFFERENCE: return a - b;
        case PRODUCT: return a * b;
        case OPPOSITE: return -a;
        case AS_INT: return a;
        case QUOTIENT: return b == 0 ? 0 : a / b;
        case REMAINDER: return b == 0 ? 0 : a % b;
        default: return b == 0 ? 0 : floorOf(a, b);
      }
    }

    private static long floorOf(long a, long b) {
      if (b == 0) return 0;
      long towards0 = a / b;
      return a % b != 0 && (a < 0) != (b < 0) ? towards0 - 1 : towards0;
    }
  }
}
