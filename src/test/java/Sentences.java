import java.io.IOException;
import java.io.UncheckedIOException;
import java.nio.file.Files;
import java.nio.file.Path;
import java.util.Arrays;
import java.util.Set;
import java.util.TreeSet;
import java.util.function.IntFunction;
import java.util.function.Supplier;
import java.util.function.ToIntBiFunction;
import java.util.function.ToIntFunction;

/** Tests by sentence: each names its promises and quotes the words of the document that it asks after. */
final class Sentences {
  static final int MIN = Integer.MIN_VALUE;
  static final int MAX = Integer.MAX_VALUE;
  static final int LOW = -1000000000;
  static final long NO_SUM = -1000000000000L;
  static final int MANY_PROMISES = 56;
  private static final Path DOC = Path.of("..", "shared", "DOC.md");
  private static final int MOST_SIX_DIGITS = 999999;
  private static final Set<Integer> NAMED = new TreeSet<>();
  private static String doc = "";

  private Sentences() {
  }

  /** The sentence must stand in the document word for word, so that no test outlives what it asks after. */
  static void holds(String sentence, Runnable test, int... promises) {
    Check.part("promise " + Arrays.toString(promises) + " \"" + sentence + "\"");
    Check.due("this stands in the document", document().contains(sentence), true);
    int before = Check.asked();
    test.run();
    Check.due("something was asked", Check.asked() > before, true);
    for (int p : promises) {
      NAMED.add(p);
    }
  }

  static void eachPromiseWasNamed() {
    Check.part("all promises");
    for (int p = 1; p <= MANY_PROMISES; p++) {
      Check.due("promise " + p + " is named by a test", NAMED.contains(p), true);
      Check.due("promise " + p + " stands in the document", document().contains("## Promise " + p + ":"), true);
    }
    Check.due("there is no other", document().contains("## Promise " + (MANY_PROMISES + 1)), false);
  }

  private static String document() {
    if (doc.isEmpty()) {
      try {
        doc = Files.readString(DOC).replaceAll("\\s+", " ");
      } catch (IOException e) {
        throw new UncheckedIOException(e);
      }
    }
    return doc;
  }

  // ---- edges ----

  /** Both edges, and the next value on each side of each. */
  static int[] edges(int least, int most) {
    return new int[] {least - 1, least, least + 1, most - 1, most, most + 1};
  }

  /**
   * A number that a text holds, from least to most. The text is told to a new object; what can't be is a
   * FAULT at the number's place (a minus sign stands there, too; of seven digits the seventh is it).
   */
  static void number(Supplier<DeadCap> start, ToIntBiFunction<DeadCap, String> tell, IntFunction<String> text, int place,
      int least, int most, ToIntFunction<DeadCap> told) {
    for (int v : edges(least, most)) {
      DeadCap x = start.get();
      int deeds = x.is(11);
      String s = text.apply(v);
      int answer = tell.applyAsInt(x, s);
      if (v < least || v > most) {
        Check.faultAt(s, x, answer, v > MOST_SIX_DIGITS ? place + 6 : place);
        Check.due("no DEED by " + s, x.is(11), deeds);
      } else {
        Check.due(s, answer, 1);
        Check.due("fault() of " + s, x.fault(), -1);
        Check.due("what came by " + s, told.applyAsInt(x), v);
      }
    }
  }

  /** An argument from least to most; for all others the answer is the one that is given. */
  static void argument(String call, IntFunction<Long> ask, int least, int most, long others, IntFunction<Long> due) {
    for (int v : new int[] {MIN, least - 1, least, least + 1, most - 1, most, most + 1, MAX}) {
      boolean inside = v >= least && v <= most;
      Check.due(call.replace("?", "" + v), ask.apply(v), inside ? due.apply(v) : others);
    }
  }

  // ---- objects to ask ----

  static String times(String s, int n) {
    return s.repeat(Math.max(0, n));
  }

  /** Pairs of BASE and ROSTER BONUS, as many as YEARS. */
  static String pays(int years) {
    return times(":100,0", years);
  }

  static void years(DeadCap x, int n) {
    for (int i = 0; i < n; i++) {
      x.year();
    }
  }

  static DeadCap inYear(int year) {
    DeadCap x = new DeadCap();
    years(x, year);
    Check.due("YEAR", x.is(0), year);
    return x;
  }

  /** Told in YEAR 0, then asked in another YEAR, on a DAY of it. */
  static DeadCap told(String text, int year, int day) {
    DeadCap x = Check.told(text);
    years(x, year);
    if (day > 0) {
      x.days(day);
    }
    Check.due("YEAR", x.is(0), year);
    Check.due("DAY", x.is(1), day);
    return x;
  }

  /** So many CONTRACTS of one YEAR, HIT 100 each. */
  static DeadCap crowd(int n) {
    DeadCap x = new DeadCap();
    for (int left = n; left > 0; left -= 25) {
      Check.text(x, times("p0,1,0,0,0:100,0;", Math.min(25, left)));
    }
    Check.due("CONTRACTS", x.is(7), n);
    return x;
  }

  /** A refused act: NONE, the REASON, no DEED. */
  static void refused(String act, DeadCap x, ToIntFunction<DeadCap> done, int reason) {
    int deeds = x.is(11);
    Check.due(act, done.applyAsInt(x), -1);
    Check.due("why() of " + act, x.why(), reason);
    Check.due("no DEED by " + act, x.is(11), deeds);
  }

  static void done(String act, DeadCap x, ToIntFunction<DeadCap> done, int answer) {
    Check.due(act, done.applyAsInt(x), answer);
    Check.due("why() of " + act, x.why(), 0);
  }
}
