import java.nio.charset.StandardCharsets;

/** What the project's tests share: answers that are due, and texts that go onto the tape. */
final class Check {
  private static int wrong = 0;
  private static int asked = 0;
  private static String part = "";

  private Check() {
  }

  static void part(String name) {
    part = name;
  }

  static int asked() {
    return asked;
  }

  static void due(String call, long got, long want) {
    asked++;
    if (got != want) {
      wrong++;
      System.out.println(part + ": " + call + " answered " + got + ", due is " + want);
    }
  }

  static void due(String call, boolean got, boolean want) {
    due(call, got ? 1 : 0, want ? 1 : 0);
  }

  /** The tape holds just this text. */
  static void tape(DeadCap x, String text) {
    x.end(0);
    byte[] bytes = text.getBytes(StandardCharsets.ISO_8859_1);
    for (int i = 0; i < bytes.length; i += 20) {
      int[] w = new int[5];
      for (int j = 0; j < 20; j++) {
        int b = i + j < bytes.length ? bytes[i + j] & 255 : 0;
        w[j / 4] = w[j / 4] << 8 | b;
      }
      x.feed(w[0], w[1], w[2], w[3], w[4]);
    }
    due("end(" + bytes.length + ")", x.end(bytes.length), bytes.length);
  }

  static int text(DeadCap x, String text) {
    tape(x, text);
    return x.text();
  }

  static int policy(DeadCap x, String text) {
    tape(x, text);
    return x.policy();
  }

  static int market(DeadCap x, String text) {
    tape(x, text);
    return x.market();
  }

  static int acts(DeadCap x, String text) {
    tape(x, text);
    return x.acts();
  }

  /** A new object that was told this text without a FAULT. */
  static DeadCap told(String text) {
    DeadCap x = new DeadCap();
    int items = 0;
    for (int i = 0; i < text.length(); i++) {
      items += text.charAt(i) == ';' ? 1 : 0;
    }
    due("text " + text, text(x, text), items);
    return x;
  }

  static void faultAt(String what, DeadCap x, int answer, int place) {
    due(what, answer, -1);
    due("fault() of " + what, x.fault(), place);
  }

  static void finish() {
    System.out.println(asked + " answers asked, " + wrong + " not as due");
    if (wrong != 0 || asked == 0) {
      System.exit(1);
    }
  }
}
