import java.lang.reflect.InvocationTargetException;
import java.lang.reflect.Method;
import java.math.BigInteger;

/** An object whose calls are told as texts; of more than 512 the document does not speak. */
final class Odds {
  /** The greatest number that is WIDE as told. */
  static final BigInteger MOST = BigInteger.TWO.pow(256).subtract(BigInteger.ONE);

  /** A call of each kind on the scene that is done, with its answer. */
  static final String[][] DONE = {
    {"1", "value(8, 5, 5)"}, {"-1", "copy(8, 2)"}, {"1", "work(0, 8, 1, 1)"}, {"1", "power(8, 2, 2)"}, {"1", "binomial(8, 5, 2)"},
    {"0", "binomial(8, 5, 6)"}, {"1", "common(8, 3, 7)"}, {"-1", "order(0, 1)"}, {"-1", "sign(2)"}, {"1", "small(2)"},
    {"8", "limbs(4, 0)"}, {"7", "limb(2, 1, 0)"}, {"2", "round(5, 0, 3)"}, {"0", "real(0, 0)"}, {"-1", "from(8, -0x1p0)"},
    {"3", "exact(0, 1, 2)"}, {"3", "row(3, 3)"}, {"1", "put(1, 1, 1)"}, {"2", "move(0, 0, 1, 0, 2)"}, {"3", "filled(1)"},
    {"0", "sum(8, 2)"}, {"0", "one(2)"}, {"-1", "pick(2, 0)"}
  };

  private final OddsFractions x = new OddsFractions();
  private int calls = 0;

  long call(String text) {
    calls++;
    if (calls > 512) throw new IllegalStateException("more than 512 calls");
    int open = text.indexOf('(');
    String inside = text.substring(open + 1, text.length() - 1);
    String[] words = inside.isEmpty() ? new String[0] : inside.split(", ");
    for (Method method : OddsFractions.class.getMethods()) {
      if (method.getName().equals(text.substring(0, open))) return answerOf(method, words, text);
    }
    throw new IllegalStateException("no such call: " + text);
  }

  private long answerOf(Method method, String[] words, String text) {
    Object[] arguments = new Object[words.length];
    for (int i = 0; i < words.length; i++) {
      long number = numberOf(words[i]);
      if (method.getParameterTypes()[i] == int.class) arguments[i] = Math.toIntExact(number);
      else arguments[i] = number;
    }
    try {
      return ((Number) method.invoke(x, arguments)).longValue();
    } catch (InvocationTargetException e) {
      Sentence.fail(text + " threw " + e.getCause());
      return 0;
    } catch (IllegalAccessException e) {
      throw new IllegalStateException(e);
    }
  }

  /** A double is told as such (with a p, or by its name) and stands for its bits. */
  static long numberOf(String word) {
    switch (word) {
      case "MIN": return Long.MIN_VALUE;
      case "MAX": return Long.MAX_VALUE;
      case "INT_MIN": return Integer.MIN_VALUE;
      case "INT_MAX": return Integer.MAX_VALUE;
      default: break;
    }
    if (word.contains("p") || word.equals("NaN") || word.endsWith("Infinity")) return bits(Double.parseDouble(word));
    return word.startsWith("0x") ? Long.parseUnsignedLong(word.substring(2), 16) : Long.parseLong(word);
  }

  void all(String... texts) {
    for (String text : texts) call(text);
  }

  /** CODE is made another one first, so that a call which leaves it is told from one that sets it. */
  void done(long want, String text) {
    call("exact(5, 1, 0)");
    Sentence.due(text, call(text), want);
    Sentence.due(text + ", CODE", call("code()"), 0L);
  }

  void refused(long code, String text) {
    call("exact(3, 0, 0)");
    Sentence.due(text, call(text), 0L);
    Sentence.due(text + ", CODE", call("code()"), code);
  }

  /** The call leaves CODE, whether that is 0 or above; it is made twice, what it answers is told of the first. */
  void leavesCode(long want, String text) {
    call("exact(5, 1, 0)");
    Sentence.due(text, call(text), want);
    Sentence.due(text + ", CODE", call("code()"), 5L);
    call("exact(3, 0, 0)");
    call(text);
    Sentence.due(text + ", CODE", call("code()"), 0L);
  }

  void outside(String text) {
    leavesCode(-2000000001, text);
  }

  /** It is done, whatever it answers. */
  void inside(String text) {
    call("exact(5, 1, 0)");
    if (call(text) == -2000000001) Sentence.fail(text + " answered OUTSIDE");
    Sentence.due(text + ", CODE", call("code()"), 0L);
  }

  void is(int a, BigInteger above, BigInteger below) {
    Sentence.due("FRACTION " + a, fraction(a), above + " / " + below);
  }

  void is(int a, long above, long below) {
    is(a, BigInteger.valueOf(above), BigInteger.valueOf(below));
  }

  String fraction(int a) {
    long sign = call("sign(" + a + ")");
    if (sign == 0 && call("code()") == 1) return "NOTHING";
    return (sign < 0 ? "-" : "") + part(a, 0) + " / " + part(a, 1);
  }

  private BigInteger part(int a, int part) {
    BigInteger number = BigInteger.ZERO;
    for (long k = call("limbs(" + a + ", " + part + ")") - 1; k >= 0; k--) {
      long limb = call("limb(" + a + ", " + part + ", " + k + ")");
      number = number.shiftLeft(32).add(BigInteger.valueOf(limb));
    }
    return number;
  }

  /** By way of FRACTIONS 14 and 15, which are NOTHING then. */
  void make(int f, BigInteger above, BigInteger below) {
    makeWhole(f, above);
    makeWhole(14, below);
    all("work(3, " + f + ", " + f + ", 14)", "nothing(14)", "nothing(15)");
  }

  private void makeWhole(int f, BigInteger number) {
    BigInteger base = BigInteger.TWO.pow(62);
    call("value(" + f + ", 0, 1)");
    for (int chunk = number.bitLength() / 62; chunk >= 0; chunk--) {
      call("value(15, " + base + ", 1)");
      call("work(2, " + f + ", " + f + ", 15)");
      call("value(15, " + number.abs().shiftRight(62 * chunk).mod(base) + ", 1)");
      call("work(0, " + f + ", " + f + ", 15)");
    }
    call("value(15, " + number.signum() + ", 1)");
    call("work(2, " + f + ", " + f + ", 15)");
  }

  /** All but CODE, as a text; ROW 3 and FRACTION 15 are used up by it. */
  String told() {
    StringBuilder all = new StringBuilder("grown " + call("grown()"));
    for (int a = 0; a < 16; a++) all.append("; ").append(fraction(a));
    for (int r = 0; r < 4; r++) all.append("; ROW of ").append(call("filled(" + r + ")")).append(", CODE ").append(call("code()"));
    for (int r = 0; r < 3; r++) all.append(";").append(places(r));
    return all.toString();
  }

  /** Each place, moved alone to ROW 3 and summed there. */
  String places(int r) {
    StringBuilder all = new StringBuilder();
    for (int k = 0; k < 10; k++) {
      call("row(3, 1)");
      if (call("move(" + r + ", " + k + ", 3, 0, 1)") == 0) break;
      all("nothing(15)", "sum(15, 3)");
      all.append(" [").append(fraction(15)).append("]");
    }
    return all.toString();
  }

  /** FRACTIONS 8 to 15 and ROW 3 are NOTHING, so is place 1 of ROW 1; ROW 2 has no places. */
  static Odds scene() {
    Odds x = new Odds();
    x.all("value(0, 0, 1)", "value(1, 1, 1)", "value(2, -5, 7)", "value(3, MIN, 1)", "from(4, 0x1p255)", "value(5, 3, 2)");
    x.all("from(6, 0x1p-255)", "value(7, 2, 1)", "row(0, 2)", "put(0, 0, 4)", "put(0, 1, 4)");
    x.all("row(1, 3)", "put(1, 0, 5)", "put(1, 2, 2)", "row(2, 0)");
    return x;
  }

  static long bits(double number) {
    return Double.doubleToRawLongBits(number);
  }
}
