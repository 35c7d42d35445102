import java.io.IOException;
import java.nio.file.Files;
import java.nio.file.Path;
import java.util.function.IntToLongFunction;

/**
 * What the tests of edges share. Each of their tests bears the words of the document that it holds
 * the class to; words that the document does not have (any more) are a fault of the test.
 */
class Edges {
  static final int LEAST = Integer.MIN_VALUE;
  static final int MAX = Integer.MAX_VALUE;
  static final int NONE = -1, BAD = -2, NOT = -3, FULL = -4;
  static final int NULL = -11, INDEX = -12, CAST = -13, STORE = -14, SIZE = -15;
  static final int BILL = 0, GIFT = 1, AUDIT = 2;
  static final String EIGHT = "o00;p11;c22;r33;o44;p55;c66;r77";

  private static String document = null;
  private static String words = "";
  private static int tests = 0;
  private static int wrong = 0;

  /** The document's path comes second; without the document the words are not looked up. */
  static void begin(String[] args) throws IOException {
    if (args.length > 1 && Files.isRegularFile(Path.of(args[1]))) {
      document = oneLine(Files.readString(Path.of(args[1])));
    }
  }

  static void end() {
    System.out.println(wrong == 0 ? tests + " sentences hold" : wrong + " answers are not as due");
    if (wrong != 0) System.exit(1);
  }

  static void says(String sentence, Runnable test) {
    words = sentence;
    tests++;
    if (document != null && !document.contains(oneLine(sentence))) {
      wrong++;
      System.out.println("the document does not say: " + sentence);
    }
    test.run();
  }

  private static String oneLine(String text) {
    return text.replaceAll("\\s+", " ");
  }

  static void due(String call, long got, long want) {
    if (got == want) return;
    wrong++;
    System.out.println("\"" + words + "\": " + call + " answered " + got + ", due is " + want);
  }

  /** A number below the least, one above the most, and those that a narrower type would let in. */
  static void outside(String call, int least, int most, long refusal, IntToLongFunction of) {
    int[] numbers = {least - 1, most + 1, least - 256, most + 256, least + 65536, most - 65536, LEAST, MAX};
    for (int n : numbers) due(call + ", number " + n, of.applyAsLong(n), refusal);
  }

  static FloorAbove house(String text) {
    FloorAbove x = new FloorAbove();
    typed(x, text);
    return x;
  }

  static void typed(FloorAbove x, String text) {
    for (char b : text.toCharArray()) x.type(b);
  }

  /** EVENTS, three numbers for each. */
  static FloorAbove with(FloorAbove x, int... events) {
    for (int i = 0; i + 2 < events.length; i += 3) x.event(events[i], events[i + 1], events[i + 2]);
    return x;
  }

  static FloorAbove roomFor(int room, FloorAbove x) {
    x.room(room);
    return x;
  }

  /** The same one n times, with ; between. */
  static String times(int n, String one) {
    return n == 0 ? "" : one + (";" + one).repeat(n - 1);
  }

  static void floors(FloorAbove x, int month, int... floors) {
    for (int t = 0; t < floors.length; t++) {
      due("the floor of " + t + " behind " + month, x.at(month, t, 0), floors[t]);
    }
  }

  /** LEFT of the first behind MONTHS 0 on. */
  static void lefts(FloorAbove x, int... lefts) {
    for (int m = 0; m < lefts.length; m++) due("left behind " + m, x.at(m, 0, 1), lefts[m]);
  }
}
