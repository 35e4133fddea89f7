import java.io.IOException;
import java.nio.file.Files;
import java.nio.file.Path;
import java.util.regex.Matcher;
import java.util.regex.Pattern;

/** The example of README.md, so that what it tells stays true: each call there has its answer behind it. */
public final class ReadmeExample {
  private static final Pattern BLOCK = Pattern.compile("(?s)```java\n(.*?)```");
  private static final Pattern CALL = Pattern.compile("x\\.(\\w+\\([^)]*\\)); +// ([^:]+): .+");
  private static final String FIRST = "OddsFractions x = new OddsFractions();";

  private static int wrong = 0;

  private static void fail(String what) {
    wrong++;
    System.out.println("README.md: " + what);
  }

  private static void look(Odds x, String line) {
    Matcher call = CALL.matcher(line);
    if (!call.matches()) {
      fail("no call with its answer: " + line);
      return;
    }
    String want = call.group(2);
    long due = want.equals("OUTSIDE") ? OddsFractions.OUTSIDE : Long.parseLong(want);
    long got = x.call(call.group(1));
    if (got != due) fail(call.group(1) + " answered " + got + ", told is " + want);
  }

  public static void main(String[] args) throws IOException {
    Matcher block = BLOCK.matcher(Files.readString(Path.of("README.md")));
    String[] lines = block.find() ? block.group(1).split("\n") : new String[] {""};
    if (!lines[0].equals(FIRST)) fail("the example does not begin with " + FIRST);
    Odds x = new Odds();
    for (int i = 1; i < lines.length; i++) look(x, lines[i]);
    System.out.println(wrong == 0 ? "all answers are as told" : wrong + " are not as told");
    if (wrong != 0) System.exit(1);
  }
}
