import java.io.IOException;
import java.nio.file.Files;
import java.nio.file.Path;

/**
 * The sentence of DOC.md that a boundary test is of: of() tells its promise and its words, which are looked up there,
 * and stands ahead of whatever fails until the next one. Promise 0 is all that stands ahead of the first.
 */
final class Sentence {
  private static final String DOCUMENT = "../shared/DOC.md";
  private static final int PROMISES = 26;

  private static final boolean[] isTested = new boolean[PROMISES + 1];
  private static String document = "";
  private static String heading = "";
  private static int wrong = 0;

  private Sentence() {}

  /** Where the document is not at hand, the answers are still told of; only the words are not looked up. */
  static void open() throws IOException {
    if (Files.isReadable(Path.of(DOCUMENT))) document = Files.readString(Path.of(DOCUMENT));
    else System.out.println("no " + DOCUMENT + ": the words of the sentences are not looked up");
  }

  static void of(int promise, String words) {
    heading = "promise " + promise + ", '" + words + "'";
    isTested[promise] = true;
    if (!document.isEmpty() && !sectionOf(promise).contains(words)) fail("there is no such sentence in " + DOCUMENT);
  }

  private static String sectionOf(int promise) {
    if (promise == 0) return document.substring(0, Math.max(0, document.indexOf("## Promise 1:")));
    int start = document.indexOf("## Promise " + promise + ":");
    if (start < 0) return "";
    int end = document.indexOf("\n## ", start);
    return document.substring(start, end < 0 ? document.length() : end);
  }

  static void fail(String what) {
    wrong++;
    System.out.println(heading + ": " + what);
  }

  static void due(String what, Object got, Object want) {
    if (!got.equals(want)) fail(what + " answered " + got + ", due is " + want);
  }

  /** Tells how it ended, with exit code 1 if anything failed or one of these promises had no test. */
  static void close(int firstPromise, int lastPromise) {
    for (int promise = firstPromise; promise <= lastPromise; promise++) {
      heading = "promise " + promise;
      if (!isTested[promise]) fail("none of its sentences has a test");
    }
    System.out.println(wrong == 0 ? "all answers are as due" : wrong + " answers are not as due");
    if (wrong != 0) System.exit(1);
  }
}
