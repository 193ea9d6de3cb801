import java.util.function.IntFunction;
import java.util.function.Supplier;
import java.util.function.ToIntBiFunction;
import java.util.function.ToIntFunction;

/** Sentences that name an edge of the tape, THE TEXT, THE POLICY, THE MARKET, ACTS, and of what is written. */
final class EdgesOfTexts {
  private static final Supplier<DeadCap> NEW = DeadCap::new;
  private static final Supplier<DeadCap> ANY_PAY = () -> Check.told("m0;");
  /** Bytes that stand nowhere in any of the texts. */
  private static final String WRONG = " zP\0\u00ff\n/";

  private EdgesOfTexts() {
  }

  private static void due(String call, long got, long want) {
    Check.due(call, got, want);
  }

  static void run() {
    tape();
    rules();
    contracts();
    theText();
    thePolicy();
    theMarket();
    theActs();
    faultsAndReasons();
    written();
  }

  // ---- promises 1 to 3 ----

  private static void tape() {
    Sentences.holds("`DeadCap()`: No CONTRACTS.", EdgesOfTexts::noContracts, 1);
    Sentences.holds("An object is used for at most 512 calls after it has been made; what later calls answer is free.", EdgesOfTexts::calls, 1);
    Sentences.holds("YEAR 0 to 19, DAY 0 to 364 (both 0 at first).", EdgesOfTexts::atFirst, 1, 11);
    Sentences.holds("Twenty bytes come behind the tape, the highest of a first: how many it has.", EdgesOfTexts::twentyBytes, 2);
    Sentences.holds("NONE, and none come, if there would be more than 500.", EdgesOfTexts::fiveHundredBytes, 2);
    Sentences.holds("The tape has its first n bytes alone: n. NONE, and nothing is done, if it has not so many, or n is below 0.",
        EdgesOfTexts::endOfTape, 3);
  }

  private static void noContracts() {
    DeadCap x = new DeadCap();
    for (int what = 7; what <= 10; what++) {
      due("is(" + what + ")", x.is(what), 0);
    }
    due("contract(0, 0)", x.contract(0, 0), -1);
    due("no DEEDS", x.is(11), 0);
    due("no tape", x.is(12), 0);
  }

  private static void calls() {
    DeadCap x = new DeadCap();
    for (int i = 1; i <= 510; i += 2) {
      due("call " + i, x.days(7), 7);
      due("call " + (i + 1), x.undo(), 0);
    }
    due("call 511", x.days(3), 3);
    due("call 512", x.is(1), 3);
    for (int i = 0; i < 3; i++) {
      // what they answer is free, but they end
      x.days(1);
      x.write();
    }
  }

  private static void atFirst() {
    DeadCap x = new DeadCap();
    due("YEAR", x.is(0), 0);
    due("DAY", x.is(1), 0);
    due("the last DAY", x.days(364), 364);
    due("the last YEAR", Sentences.inYear(19).is(0), 19);
  }

  private static void twentyBytes() {
    DeadCap x = new DeadCap();
    // "l0,123456;l1,654321;" is twenty bytes, each in its own place
    due("feed", x.feed(0x6C302C31, 0x32333435, 0x363B6C31, 0x2C363534, 0x3332313B), 20);
    due("text", x.text(), 2);
    due("limit(0)", x.limit(0), 123456);
    due("limit(1)", x.limit(1), 654321);
    due("feed", x.feed(0x63373B63, 0x383B6339, 0x3B633130, 0x3B633131, 0x3B63313B), 20);
    due("behind those", x.feed(0x6D373B6D, 0x383B6D39, 0x3B6D3130, 0x3B6D3131, 0x3B6D313B), 40);
    due("text", x.text(), 12);
    due("the last byte of e", x.is(6), 1);
    // the highest bit is no sign: byte 255 stands at the place of each word in turn
    for (int place = 0; place < 5; place++) {
      int[] w = {0x63373B63, 0x383B6339, 0x3B633130, 0x3B633131, 0x3B63313B};
      w[place] |= 0xFF000000;
      due("feed", x.feed(w[0], w[1], w[2], w[3], w[4]), 20);
      Check.faultAt("byte 255", x, x.text(), 4 * place);
    }
  }

  private static void fiveHundredBytes() {
    for (int size : new int[] {0, 1, 479, 480, 481, 499, 500}) {
      DeadCap x = new DeadCap();
      for (int i = 0; i < 25; i++) {
        x.feed(0x6331303B, 0x6331303B, 0x6331303B, 0x6331303B, 0x6331303B);
      }
      due("end", x.end(size), size);
      boolean fits = size <= 480;
      due("feed behind " + size, x.feed(0x6331313B, 0, 0, 0, 0), fits ? size + 20 : -1);
      due("is(12)", x.is(12), fits ? size + 20 : size);
    }
    DeadCap full = new DeadCap();
    for (int i = 1; i <= 25; i++) {
      due("feed", full.feed(0x6331303B, 0x6331303B, 0x6331303B, 0x6331303B, 0x6331323B), 20 * i);
    }
    due("full", full.feed(0x63373B63, 0x373B6337, 0x3B63373B, 0x63373B63, 0x373B6337), -1);
    due("none came", full.text(), 125);
    due("COUNTED of the last item", full.is(5), 12);
    due("the tape is empty then", full.is(12), 0);
  }

  private static void endOfTape() {
    for (int n : new int[] {Sentences.MIN, -1, 0, 1, 2, 19, 20, 21, Sentences.MAX}) {
      DeadCap x = new DeadCap();
      x.feed(0x63373B63, 0x383B6339, 0x3B633130, 0x3B633131, 0x3B63313B);
      boolean well = n >= 0 && n <= 20;
      due("end(" + n + ")", x.end(n), well ? n : -1);
      due("is(12)", x.is(12), well ? n : 20);
      if (!well) {
        due("nothing is done", x.text(), 6);
      }
    }
    DeadCap empty = new DeadCap();
    due("end(0) of an empty tape", empty.end(0), 0);
    due("end(1) of an empty tape", empty.end(1), -1);
    due("end(-1) of an empty tape", empty.end(-1), -1);
    DeadCap first = new DeadCap();
    first.feed(0x63373B63, 0x383B6339, 0x3B633130, 0x3B633131, 0x3B63313B);
    due("its first bytes", first.end(6), 6);
    due("it does not grow", first.end(7), -1);
    due("two items", first.text(), 2);
    due("the second", first.is(5), 8);
  }

  // ---- promise 4: RULES ----

  private static void rules() {
    Sentences.holds("LIMIT of a YEAR (0 to 999999; 100000 at first, each)", EdgesOfTexts::limits, 1, 4, 12);
    Sentences.holds("l YEAR , LIMIT", EdgesOfTexts::yearOfLimit, 4, 12);
    Sentences.holds("CUT DAY (150 at first), ROSTER DAY (20), SEASON DAY (200; 0 to 364 each)", EdgesOfTexts::daysOfRules, 1, 4, 11);
    Sentences.holds("COUNTED (1 to 40; 20)", EdgesOfTexts::countedRule, 1, 4, 11);
    Sentences.holds("LEAST PAY (0 to 9999; 100)", EdgesOfTexts::leastPay, 1, 4, 11);
  }

  private static void text(Supplier<DeadCap> start, IntFunction<String> text, int place, int least, int most, ToIntFunction<DeadCap> told) {
    Sentences.number(start, Check::text, text, place, least, most, told);
  }

  private static void limits() {
    DeadCap x = new DeadCap();
    for (int y = 0; y < 20; y++) {
      due("limit(" + y + ")", x.limit(y), 100000);
    }
    text(NEW, v -> "l0," + v + ";", 3, 0, 999999, a -> a.limit(0));
    text(NEW, v -> "l19," + v + ";", 4, 0, 999999, a -> a.limit(19));
    Supplier<DeadCap> last = () -> Sentences.inYear(19);
    text(last, v -> "l0," + v + ";", 3, 0, 999999, a -> a.limit(0));
  }

  private static int yearWithLimit(DeadCap x, int limit) {
    for (int y = 0; y < 20; y++) {
      if (x.limit(y) == limit) {
        return y;
      }
    }
    return -1;
  }

  private static void yearOfLimit() {
    text(NEW, v -> "l" + v + ",7;", 1, 0, 19, a -> yearWithLimit(a, 7));
  }

  private static void daysOfRules() {
    DeadCap x = new DeadCap();
    due("CUT DAY", x.is(2), 150);
    due("ROSTER DAY", x.is(3), 20);
    due("SEASON DAY", x.is(4), 200);
    text(NEW, v -> "d" + v + ",7,8;", 1, 0, 364, a -> a.is(2));
    text(NEW, v -> "d7," + v + ",8;", 3, 0, 364, a -> a.is(3));
    text(NEW, v -> "d7,8," + v + ";", 5, 0, 364, a -> a.is(4));
  }

  private static void countedRule() {
    due("at first", new DeadCap().is(5), 20);
    text(NEW, v -> "c" + v + ";", 1, 1, 40, a -> a.is(5));
  }

  private static void leastPay() {
    due("at first", new DeadCap().is(6), 100);
    text(NEW, v -> "m" + v + ";", 1, 0, 9999, a -> a.is(6));
  }

  // ---- promise 4: CONTRACTS ----

  private static void contracts() {
    Sentences.holds("A CONTRACT (40 at most; numbers as they come, for good)", EdgesOfTexts::fortyContracts, 4, 14);
    Sentences.holds("a 41st p: its letter.", EdgesOfTexts::fortyFirst, 4, 8);
    Sentences.holds("a FIRST YEAR below YEAR;", EdgesOfTexts::firstYear, 4, 14);
    Sentences.holds("YEARS (1 to 6), VOID ones behind them (0 to 4)", EdgesOfTexts::manyYears, 4, 14);
    Sentences.holds("YEARS, VOID ones that go above 19;", EdgesOfTexts::above19, 4, 8);
    Sentences.holds("SIGNING BONUS (0 to 99999), SURE (0 to 100:", EdgesOfTexts::bonusAndSure, 4, 14);
    Sentences.holds("of each of its YEARS BASE and ROSTER BONUS (0 to 99999 each).", EdgesOfTexts::baseAndRoster, 4, 15);
    Sentences.holds("BASE below LEAST PAY as it is then): its first byte, as it ends;", EdgesOfTexts::belowLeastPay, 4, 8);
    Sentences.holds("(as many as YEARS).", EdgesOfTexts::asManyAsYears, 4, 8);
  }

  private static void fortyContracts() {
    DeadCap x = Sentences.crowd(38);
    due("39th", Check.text(x, "p0,1,0,0,0:139,0;"), 1);
    due("its number", x.pay(38, 0, 0), 139);
    due("there is no number 39", x.contract(39, 0), -1);
    due("40th", Check.text(x, "p0,1,0,0,0:140,0;"), 1);
    due("its number", x.pay(39, 0, 0), 140);
    due("there is no number 40", x.contract(40, 0), -1);
    due("CONTRACTS", x.is(7), 40);
    Check.faultAt("41st", x, Check.text(x, "p0,1,0,0,0:141,0;"), 0);
    due("CONTRACTS", x.is(7), 40);
    x.cut(0);
    Check.faultAt("numbers are for good: a CUT one keeps its own", x, Check.text(x, "p0,1,0,0,0:141,0;"), 0);
    x.year();
    due("all are over, CUT", x.is(8), 0);
    Check.faultAt("over, too", x, Check.text(x, "p1,1,0,0,0:141,0;"), 0);
    due("the 40th has its number still", x.pay(39, 0, 0), 140);
    DeadCap few = Sentences.crowd(2);
    few.cut(0);
    due("the next", Check.text(few, "p0,1,0,0,0:143,0;"), 1);
    due("has a number of its own", few.pay(2, 0, 0), 143);
    due("the first one stays CUT", few.contract(0, 4), 1);
  }

  private static void fortyFirst() {
    String p = "p0,1,0,0,0:100,0;";
    DeadCap x = Sentences.crowd(39);
    Check.faultAt("40th, 41st", x, Check.text(x, p + p), p.length());
    due("all or nothing", x.is(7), 39);
    Check.faultAt("behind another item", x, Check.text(x, "c7;" + p + "m5;" + p), 3 + p.length() + 3);
    due("all or nothing", x.is(5), 20);
    due("40th", Check.text(x, p), 1);
    Check.faultAt("its letter, whatever is behind it", x, Check.text(x, "c7;pz"), 3);
    Check.faultAt("its letter, if nothing is behind it", x, Check.text(x, "p"), 0);
    due("others can still come", Check.text(x, "c7;"), 1);
  }

  private static void firstYear() {
    IntFunction<String> one = v -> "p" + v + ",1,0,0,0:100,0;";
    ToIntFunction<DeadCap> first = a -> a.contract(0, 0);
    text(NEW, one, 1, 0, 19, first);
    text(() -> Sentences.inYear(1), one, 1, 1, 19, first);
    text(() -> Sentences.inYear(18), one, 1, 18, 19, first);
    text(() -> Sentences.inYear(19), one, 1, 19, 19, first);
  }

  private static void manyYears() {
    text(NEW, v -> "p0," + v + ",0,0,0" + Sentences.pays(v) + ";", 3, 1, 6, a -> a.contract(0, 1));
    text(NEW, v -> "p0,1," + v + ",0,0:100,0;", 5, 0, 4, a -> a.contract(0, 2));
    text(NEW, v -> "p0,6," + v + ",0,0" + Sentences.pays(6) + ";", 5, 0, 4, a -> a.contract(0, 2));
  }

  private static void above19() {
    for (int first = 13; first <= 19; first++) {
      int y = first;
      text(NEW, v -> "p" + y + "," + v + ",0,0,0" + Sentences.pays(v) + ";", 4, 1, Math.min(6, 20 - y), a -> a.contract(0, 1));
      text(NEW, v -> "p" + y + ",1," + v + ",0,0:100,0;", 6, 0, Math.min(4, 19 - y), a -> a.contract(0, 2));
    }
    for (int years = 1; years <= 6; years++) {
      int n = years;
      text(NEW, v -> "p13," + n + "," + v + ",0,0" + Sentences.pays(n) + ";", 6, 0, Math.min(4, 7 - n), a -> a.contract(0, 2));
    }
    text(() -> Sentences.inYear(19), v -> "p19," + v + ",0,0,0" + Sentences.pays(v) + ";", 4, 1, 1, a -> a.contract(0, 1));
  }

  private static void bonusAndSure() {
    text(NEW, v -> "p0,1,0," + v + ",0:100,0;", 7, 0, 99999, a -> a.pay(0, 0, 2));
    text(NEW, v -> "p0,1,0,0," + v + ":100,0;", 9, 0, 100, a -> a.contract(0, 3));
    text(NEW, v -> "p0,1,0,0," + v + ":100,0;", 9, 0, 100, a -> a.would(0, 0));
  }

  private static void baseAndRoster() {
    text(ANY_PAY, v -> "p0,1,0,0,0:" + v + ",0;", 11, 0, 99999, a -> a.pay(0, 0, 0));
    text(ANY_PAY, v -> "p0,1,0,0,0:0," + v + ";", 13, 0, 99999, a -> a.pay(0, 0, 1));
    text(ANY_PAY, v -> "p0,6,0,0,0" + Sentences.pays(5) + ":" + v + ",0;", 41, 0, 99999, a -> a.pay(0, 5, 0));
    text(ANY_PAY, v -> "p0,6,0,0,0" + Sentences.pays(5) + ":0," + v + ";", 43, 0, 99999, a -> a.pay(0, 5, 1));
  }

  private static void belowLeastPay() {
    for (int least : new int[] {0, 1, 100, 9998, 9999}) {
      Supplier<DeadCap> start = () -> Check.told("m" + least + ";");
      text(start, v -> "p0,1,0,0,0:" + v + ",0;", 11, least, 99999, a -> a.pay(0, 0, 0));
      text(start, v -> "p0,2,0,0,0:99999,0:" + v + ",0;", 19, least, 99999, a -> a.pay(0, 1, 0));
    }
    DeadCap x = new DeadCap();
    Check.faultAt("LEAST PAY of an item ahead", x, Check.text(x, "m200;p0,1,0,0,0:199,0;"), 16);
    due("all or nothing", x.is(6), 100);
    due("200", Check.text(x, "m200;p0,1,0,0,0:200,0;"), 2);
    due("201", Check.text(x, "p0,1,0,0,0:201,0;"), 1);
    DeadCap behind = new DeadCap();
    due("of an item behind it does not matter", Check.text(behind, "p0,1,0,0,0:100,0;m200;"), 2);
    due("BASE", behind.pay(0, 0, 0), 100);
    Check.faultAt("then it does", behind, Check.text(behind, "p0,1,0,0,0:199,0;"), 11);
    due("ROSTER BONUS may be less", Check.text(behind, "p0,1,0,0,0:200,0;"), 1);
  }

  private static void asManyAsYears() {
    for (int years = 1; years <= 6; years++) {
      String head = "p0," + years + ",0,0,0";
      for (int pairs = years - 1; pairs <= years + 1; pairs++) {
        DeadCap x = new DeadCap();
        String s = head + Sentences.pays(pairs) + ";";
        int answer = Check.text(x, s);
        if (pairs == years) {
          due(s, answer, 1);
        } else {
          Check.faultAt(s, x, answer, head.length() + 6 * Math.min(pairs, years));
        }
        due("CONTRACTS", x.is(7), pairs == years ? 1 : 0);
      }
    }
  }

  // ---- promise 4: THE TEXT ----

  private static void theText() {
    Sentences.holds("A number: 1 to 6 digits.", EdgesOfTexts::digitsOfText, 4, 8);
    Sentences.holds("the first byte with which no such text goes on (a 7th digit, too; its length, if it ends too early);",
        EdgesOfTexts::brokenTexts, 4, 8);
    Sentences.holds("By the empty text nothing comes; all or nothing.", EdgesOfTexts::emptyText, 4);
    Sentences.holds("The tape (empty then) is THE TEXT: how many ITEMS. NONE: a FAULT.", EdgesOfTexts::tapeOfText, 4);
  }

  /** Fields with what stands ahead of each; each field in turn with no digit, one, five, six, seven. */
  private static void digits(Supplier<DeadCap> start, ToIntBiFunction<DeadCap, String> tell, String[] ahead, String[] fields, String last) {
    for (int i = 0; i < fields.length; i++) {
      for (int many : new int[] {0, fields[i].length(), 5, 6, 7}) {
        StringBuilder s = new StringBuilder();
        int place = 0;
        for (int j = 0; j < fields.length; j++) {
          s.append(ahead[j]);
          place = i == j ? s.length() : place;
          s.append(j != i ? fields[j] : many == 0 ? "" : Sentences.times("0", many - fields[j].length()) + fields[j]);
        }
        DeadCap x = start.get();
        int answer = tell.applyAsInt(x, s.append(last).toString());
        if (many == 0 || many == 7) {
          Check.faultAt(s.toString(), x, answer, many == 0 ? place : place + 6);
        } else {
          Check.due(s.toString(), answer >= 0 && x.fault() == -1, true);
        }
      }
    }
  }

  private static void digitsOfText() {
    digits(NEW, Check::text, new String[] {"l", ","}, new String[] {"3", "7"}, ";");
    digits(NEW, Check::text, new String[] {"d", ",", ","}, new String[] {"3", "7", "364"}, ";");
    digits(NEW, Check::text, new String[] {"c"}, new String[] {"7"}, ";");
    digits(NEW, Check::text, new String[] {"m"}, new String[] {"7"}, ";");
    digits(NEW, Check::text, new String[] {"p", ",", ",", ",", ",", ":", ",", ":", ","}, new String[] {"3", "2", "0", "7", "9", "100", "5", "100", "5"}, ";");
  }

  /** What is whole up to some byte, and broken from it on: at the text's end, or by a byte that stands nowhere. */
  private static void broken(Supplier<DeadCap> start, ToIntBiFunction<DeadCap, String> tell, String ahead, String piece) {
    DeadCap whole = start.get();
    Check.due(ahead + piece, tell.applyAsInt(whole, ahead + piece) > 0, true);
    for (int i = 0; i < piece.length(); i++) {
      String part = ahead + piece.substring(0, i);
      if (i > 0) {
        DeadCap x = start.get();
        Check.faultAt("too short: " + part, x, tell.applyAsInt(x, part), part.length());
      }
      // the byte behind 9 stands in a p alone
      for (char c : (piece.charAt(0) == 'p' ? WRONG : WRONG + ":").toCharArray()) {
        DeadCap x = start.get();
        String s = part + c + piece.substring(i + 1);
        Check.faultAt("byte " + (int) c + " in " + s, x, tell.applyAsInt(x, s), part.length());
      }
    }
  }

  private static void brokenTexts() {
    String[] items = {"l5,77;", "d11,22,33;", "c22;", "m77;", "p1,2,3,77,88:99,66:55,44;"};
    for (String item : items) {
      broken(ANY_PAY, Check::text, "", item);
      broken(ANY_PAY, Check::text, "c7;l1,1;", item);
    }
    DeadCap x = new DeadCap();
    Check.faultAt("a 7th digit", x, Check.text(x, "l0,1234567;"), 9);
    due("six", Check.text(x, "l0,123456;"), 1);
    Check.faultAt("a second ;", x, Check.text(x, "c7;;"), 3);
    Check.faultAt("; alone", x, Check.text(x, ";"), 0);
  }

  private static void emptyText() {
    DeadCap x = Check.told("c7;m5;l3,9;d1,2,3;p0,1,0,0,0:100,0;");
    due("empty", Check.text(x, ""), 0);
    due("fault", x.fault(), -1);
    int[] is = {0, 0, 1, 2, 3, 7, 5, 1, 1, 0, 0};
    for (int i = 0; i < is.length; i++) {
      due("nothing came: is(" + i + ")", x.is(i), is[i]);
    }
    due("limit(3)", x.limit(3), 9);
    Check.faultAt("the last byte is wrong", x, Check.text(x, "c8;m6;l3,8;d4,5,6;p0,1,0,0,0:100,0;c1:"), 37);
    for (int i = 0; i < is.length; i++) {
      due("all or nothing: is(" + i + ")", x.is(i), is[i]);
    }
    due("limit(3)", x.limit(3), 9);
    due("one byte less", Check.text(x, "c8;m6;l3,8;d4,5,6;p0,1,0,0,0:100,0;"), 5);
    int[] then = {0, 0, 4, 5, 6, 8, 6, 2, 2, 0, 0};
    for (int i = 0; i < then.length; i++) {
      due("all: is(" + i + ")", x.is(i), then[i]);
    }
  }

  private static void tapeOfText() {
    for (int n : new int[] {1, 2, 99, 100}) {
      DeadCap x = new DeadCap();
      due(n + " ITEMS", Check.text(x, Sentences.times("c7;", n)), n);
      due("the tape is empty then", x.is(12), 0);
    }
    DeadCap x = new DeadCap();
    due("166 ITEMS", Check.text(x, Sentences.times("c7;", 166)), 166);
    Check.faultAt("a full tape that ends too early", x, Check.text(x, Sentences.times("c7;", 166) + "c7"), 500);
    due("the tape is empty behind a FAULT, too", x.is(12), 0);
    due("ITEMS of the empty tape", x.text(), 0);
  }

  // ---- promise 5 ----

  private static void thePolicy() {
    Sentences.holds("A POLICY, a text (none at first, and by an empty one): SUM.", EdgesOfTexts::emptyPolicy, 5, 28, 29);
    Sentences.holds("THING: a NUMBER (1 to 6 digits), ( SUM ), h HIT of YEAR", EdgesOfTexts::numbersOfPolicy, 5, 8, 28);
    Sentences.holds("40 THINGS ( ( is one), 6 ( within one another. FAULT: as above.", EdgesOfTexts::fortyThings, 5, 8);
    Sentences.holds("The tape (empty then) is THE POLICY: how many THINGS. NONE: a FAULT (it stays).", EdgesOfTexts::policyStays, 5, 8);
  }

  private static void emptyPolicy() {
    DeadCap x = Sentences.crowd(1);
    due("none at first", x.says(0), Sentences.NO_SUM);
    due("none at first", x.byPolicy(999999), -1);
    due("one THING", Check.policy(x, "7"), 1);
    due("says", x.says(0), 7);
    due("empty", Check.policy(x, ""), 0);
    due("fault", x.fault(), -1);
    due("none then", x.says(0), Sentences.NO_SUM);
    due("none then", x.byPolicy(999999), -1);
    due("0 is a SUM", Check.policy(x, "0"), 1);
    due("says", x.says(0), 0);
    due("byPolicy", x.byPolicy(0), 0);
  }

  private static void numbersOfPolicy() {
    String[] numbers = {"0", "1", "9", "10", "99999", "100000", "999998", "999999", "000000", "000001"};
    DeadCap x = Sentences.crowd(1);
    for (String s : numbers) {
      due(s, Check.policy(x, s), 1);
      due("SUM " + s, x.says(0), Integer.parseInt(s));
    }
    for (String s : new String[] {"1000000", "0000000", "0000001", "9999999"}) {
      Check.faultAt(s, x, Check.policy(x, s), 6);
      Check.faultAt("h+" + s, x, Check.policy(x, "h+" + s), 8);
    }
    due("it stays", x.says(0), 1);
    Check.faultAt("no digit", x, Check.policy(x, "h+"), 2);
    Check.faultAt("no digit", x, Check.policy(x, "(+1)"), 1);
  }

  private static void fortyThings() {
    DeadCap x = Sentences.crowd(1);
    for (String join : new String[] {"+", "-", "*"}) {
      for (String thing : new String[] {"1", "h", "999999"}) {
        due("39", Check.policy(x, Sentences.times(thing + join, 38) + thing), 39);
        due("40", Check.policy(x, Sentences.times(thing + join, 39) + thing), 40);
        String much = Sentences.times(thing + join, 40) + thing;
        Check.faultAt("41", x, Check.policy(x, much), 40 * (thing.length() + 1));
      }
    }
    due("39, ( is one", Check.policy(x, Sentences.times("(1)+", 19) + "1"), 39);
    due("40, ( is one", Check.policy(x, Sentences.times("(1)+", 19) + "(1)"), 40);
    Check.faultAt("41, ( is one", x, Check.policy(x, Sentences.times("(1)+", 20) + "1"), 80);
    Check.faultAt("41, ( itself", x, Check.policy(x, Sentences.times("(1)+", 20) + "(1)"), 80);
    for (int deep = 1; deep <= 8; deep++) {
      String s = Sentences.times("(", deep) + "7" + Sentences.times(")", deep);
      int answer = Check.policy(x, s);
      if (deep <= 6) {
        due(s, answer, deep + 1);
        due("SUM of " + s, x.says(0), 7);
      } else {
        Check.faultAt(s, x, answer, 6);
      }
      String chain = Sentences.times("1+(", deep) + "7" + Sentences.times(")", deep);
      answer = Check.policy(x, chain);
      if (deep <= 6) {
        due(chain, answer, 2 * deep + 1);
      } else {
        Check.faultAt(chain, x, answer, 20);
      }
    }
    due("7 ( that are not within one another", Check.policy(x, "((((((1))))))+(2)"), 9);
    due("their SUM", x.says(0), 3);
    due("6 again behind one that ended", Check.policy(x, "(((((1)+(2)))))"), 8);
    Check.faultAt("7 behind one that ended", x, Check.policy(x, "(((((1)+((2))))))+((((((("), 24);
    Check.faultAt("a ) too many", x, Check.policy(x, "(1))"), 3);
    Check.faultAt("a ) too few", x, Check.policy(x, "((1)"), 4);
  }

  private static void policyStays() {
    broken(NEW, Check::policy, "", "((h+x*22)-(s*y)*b)");
    DeadCap x = Sentences.crowd(1);
    due("6 THINGS", Check.policy(x, "(h+x*2)-n*3"), 6);
    String[] bad = {"+", "1+", "()", "hh", "1h", "(1", ")", "1234567", "h;", "h+(h*)", "h--h"};
    int[] places = {0, 2, 1, 1, 1, 2, 0, 6, 1, 5, 2};
    for (int i = 0; i < bad.length; i++) {
      int deeds = x.is(11);
      Check.faultAt(bad[i], x, Check.policy(x, bad[i]), places[i]);
      due("it stays behind " + bad[i], x.says(0), 100);
      due("the tape is empty then", x.is(12), 0);
      due("no DEED", x.is(11), deeds);
    }
    for (int i = 0; i < 8; i++) {
      Check.faultAt("nothing is left of a FAULT", x, Check.policy(x, "1+2*((((((3"), 11);
    }
    due("another", Check.policy(x, "1+2*(3-4*(5+6*(7-8*(9+1*(11-2*(2+3))))))"), 20);
    due("its SUM", x.says(0), 1 + 2 * (3 - 4 * (5 + 6 * (7 - 8 * (9 + 1 * (11 - 2 * (2 + 3)))))));
  }

  // ---- promise 6 ----

  private static void theMarket() {
    Sentences.holds("(WORTH 1 to 9999, YEARS 1 to 6, BONUS 0 to 99999, BASE LEAST PAY to 99999;", EdgesOfTexts::numbersOfMarket, 6, 8, 47);
    Sentences.holds("12 OFFERS at most, no blanks", EdgesOfTexts::twelveOffers, 6, 47);
    Sentences.holds("FAULTS as of THE TEXT; a 13th OFFER: its first byte): in place of the one there was.", EdgesOfTexts::brokenMarkets, 6, 8);
    Sentences.holds("The tape (empty then) is THE MARKET: how many OFFERS. NONE: a FAULT (it stays).", EdgesOfTexts::marketStays, 6);
  }

  private static void market(Supplier<DeadCap> start, IntFunction<String> text, int place, int least, int most, ToIntFunction<DeadCap> told) {
    Sentences.number(start, Check::market, text, place, least, most, told);
  }

  private static void numbersOfMarket() {
    market(NEW, v -> v + ",1,0,100;", 0, 1, 9999, a -> a.offer(0, 0));
    market(NEW, v -> "7," + v + ",0,100;", 2, 1, 6, a -> a.offer(0, 1));
    market(NEW, v -> "7,1," + v + ",100;", 4, 0, 99999, a -> a.offer(0, 2));
    market(NEW, v -> "7,1,0," + v + ";", 6, 100, 99999, a -> a.offer(0, 3));
    for (int least : new int[] {0, 1, 9998, 9999}) {
      market(() -> Check.told("m" + least + ";"), v -> "7,1,0," + v + ";", 6, least, 99999, a -> a.offer(0, 3));
    }
    Supplier<DeadCap> last = () -> Sentences.inYear(19);
    market(last, v -> "7," + v + ",0,100;", 2, 1, 6, a -> a.offer(0, 1));
    digits(NEW, Check::market, new String[] {"", ",", ",", ","}, new String[] {"7", "6", "5", "100"}, ";");
  }

  private static void twelveOffers() {
    for (int n : new int[] {0, 1, 2, 11, 12, 13, 14}) {
      DeadCap x = new DeadCap();
      int answer = Check.market(x, Sentences.times("7,1,0,100;", n));
      if (n > 12) {
        Check.faultAt(n + " OFFERS", x, answer, 120);
      } else {
        due(n + " OFFERS", answer, n);
      }
      due("the last one", x.offer(n - 1, 0), n == 0 || n > 12 ? -1 : 7);
      due("no more", x.offer(n, 0), -1);
    }
  }

  private static void brokenMarkets() {
    broken(ANY_PAY, Check::market, "", "77,6,55,44;");
    broken(ANY_PAY, Check::market, "7,1,0,100;", "77,6,55,44;");
    String twelve = Sentences.times("7,1,0,100;", 12);
    for (String more : new String[] {"8", "8,1,0,100;", "0", "z", ";", "99999999"}) {
      DeadCap x = new DeadCap();
      Check.faultAt("13th: " + more, x, Check.market(x, twelve + more), 120);
    }
    DeadCap x = new DeadCap();
    due("three", Check.market(x, Sentences.times("7,1,0,100;", 3)), 3);
    due("two in their place", Check.market(x, "8,1,0,100;9,1,0,100;"), 2);
    due("the first", x.offer(0, 0), 8);
    due("the third is gone", x.offer(2, 0), -1);
    due("none in their place", Check.market(x, ""), 0);
    due("the first is gone", x.offer(0, 0), -1);
  }

  private static void marketStays() {
    DeadCap x = new DeadCap();
    due("two", Check.market(x, "8,1,0,100;9,2,5,300;"), 2);
    for (String s : new String[] {"1", "1,1,0,99;", "1,1,0,100;z", Sentences.times("7,1,0,100;", 13)}) {
      int deeds = x.is(11);
      due(s, Check.market(x, s), -1);
      due("the first stays", x.offer(0, 0), 8);
      due("the second stays", x.offer(1, 3), 300);
      due("there is no third", x.offer(2, 0), -1);
      due("the tape is empty then", x.is(12), 0);
      due("no DEED", x.is(11), deeds);
    }
    Check.text(x, "m400;");
    due("LEAST PAY that grows takes none away", x.offer(0, 3), 100);
  }

  // ---- promise 7 ----

  private static void theActs() {
    Sentences.holds("ACTS, a text: { ACT ; }, 20 at most, no blanks", EdgesOfTexts::twentyActs, 7, 8);
    Sentences.holds("Numbers of 1 to 6 digits, any. FAULT: as above (a 21st ACT: its first byte).", EdgesOfTexts::brokenActs, 7, 8);
    Sentences.holds("Done one by one till one is refused.", EdgesOfTexts::tillRefused, 7, 9);
    Sentences.holds("The tape (empty then) is ACTS: how many were done. NONE: a FAULT (nothing is done).", EdgesOfTexts::nothingDone, 7);
  }

  private static void twentyActs() {
    for (int n : new int[] {0, 1, 2, 19, 20, 21, 22}) {
      DeadCap x = new DeadCap();
      int answer = Check.acts(x, Sentences.times("d1;", n));
      if (n > 20) {
        Check.faultAt(n + " ACTS", x, answer, 60);
      } else {
        due(n + " ACTS", answer, n);
        due("fault", x.fault(), -1);
      }
      due("DAY", x.is(1), n > 20 ? 0 : n);
      due("ended", x.ended(), -1);
      due("the tape is empty then", x.is(12), 0);
    }
  }

  private static void brokenActs() {
    for (String act : new String[] {"x22;", "t33,44;", "d55;", "y;"}) {
      DeadCap whole = new DeadCap();
      Check.acts(whole, act);
      due("no FAULT in " + act, whole.fault(), -1);
      broken(NEW, Check::acts, "d1;", act);
    }
    digits(NEW, Check::acts, new String[] {"x"}, new String[] {"7"}, ";");
    digits(NEW, Check::acts, new String[] {"t", ","}, new String[] {"7", "7"}, ";");
    digits(NEW, Check::acts, new String[] {"d"}, new String[] {"7"}, ";");
    String[] any = {"x0;", "x999999;", "t0,0;", "t999999,999999;", "d0;", "d999999;"};
    int[] reasons = {1, 1, 1, 1, 4, 4};
    for (int i = 0; i < any.length; i++) {
      DeadCap x = new DeadCap();
      due(any[i], Check.acts(x, any[i]), 0);
      due("no FAULT", x.fault(), -1);
      due("why", x.why(), reasons[i]);
    }
    String twenty = Sentences.times("d1;", 20);
    for (String more : new String[] {"d", "d1;", "z", ";", "y;y;"}) {
      DeadCap x = new DeadCap();
      Check.faultAt("21st: " + more, x, Check.acts(x, twenty + more), 60);
      due("nothing is done", x.is(1), 0);
    }
  }

  private static void tillRefused() {
    for (int place = 0; place < 20; place++) {
      DeadCap x = new DeadCap();
      String s = Sentences.times("d1;", place) + "d0;" + Sentences.times("d1;", 19 - place);
      due(s, Check.acts(x, s), place);
      due("ended", x.ended(), place);
      due("why", x.why(), 4);
      due("those ahead are done, those behind are not", x.is(1), place);
      due("no FAULT", x.fault(), -1);
    }
    DeadCap x = new DeadCap();
    due("none is refused", Check.acts(x, Sentences.times("d1;", 20)), 20);
    due("ended", x.ended(), -1);
    due("why", x.why(), 0);
    DeadCap last = Sentences.inYear(18);
    due("the YEARS end", Check.acts(last, "y;y;y;"), 1);
    due("ended", last.ended(), 1);
    due("why", last.why(), 7);
  }

  private static void nothingDone() {
    DeadCap x = Sentences.crowd(1);
    due("refused", Check.acts(x, "d1;d0;"), 1);
    Check.faultAt("the last byte lacks", x, Check.acts(x, "d1;x0;y"), 7);
    due("DAY", x.is(1), 1);
    due("OPEN", x.is(8), 1);
    due("YEAR", x.is(0), 0);
    due("DEEDS", x.is(11), 2);
    due("why stays", x.why(), 4);
    due("ended stays", x.ended(), 1);
    due("the tape is empty then", x.is(12), 0);
    due("empty", x.acts(), 0);
    due("fault", x.fault(), -1);
    due("ended", x.ended(), -1);
    due("no DEED by no ACT", x.is(11), 2);
  }

  // ---- promises 8 to 10 ----

  private static void faultsAndReasons() {
    Sentences.holds("The FAULT's place of the latest text(), policy(), market(), acts(); NONE, if that was well, ahead of any.",
        EdgesOfTexts::places, 8);
    Sentences.holds("Which ACT (0 on) was refused in the latest acts() that was not NONE. NONE: none was, ahead of any.", EdgesOfTexts::endedAt, 9);
    Sentences.holds("was refused; 0, if it was not, ahead of any.", EdgesOfTexts::reasons, 10);
  }

  private static void places() {
    due("ahead of any", new DeadCap().fault(), -1);
    String[] bad = {"z", "c", "1,", "d1"};
    int[] at = {0, 1, 2, 2};
    for (int first = 0; first < 4; first++) {
      for (int second = 0; second < 4; second++) {
        DeadCap x = new DeadCap();
        due("a FAULT", read(x, first, bad[first]), -1);
        int place = first == 1 ? 0 : at[first];
        due("its place", x.fault(), place);
        x.days(1);
        x.undo();
        due("it stays", x.fault(), place);
        due("well", read(x, second, ""), 0);
        due("the latest was well", x.fault(), -1);
      }
    }
    DeadCap far = new DeadCap();
    Check.faultAt("byte 499", far, Check.text(far, Sentences.times("c10;", 124) + "c10:"), 499);
    Check.faultAt("byte 500", far, Check.text(far, Sentences.times("c10;", 124) + "c010"), 500);
  }

  private static int read(DeadCap x, int kind, String s) {
    if (kind == 0) {
      return Check.text(x, s);
    }
    if (kind == 1) {
      return Check.policy(x, s);
    }
    return kind == 2 ? Check.market(x, s) : Check.acts(x, s);
  }

  private static void endedAt() {
    DeadCap x = new DeadCap();
    due("ahead of any", x.ended(), -1);
    due("the first", Check.acts(x, "d0;"), 0);
    due("0", x.ended(), 0);
    due("a FAULT", Check.acts(x, "d"), -1);
    due("the latest that was not NONE", x.ended(), 0);
    due("text", Check.text(x, "c7;"), 1);
    due("days", x.days(1), 1);
    due("it stays", x.ended(), 0);
    due("the second", Check.acts(x, "d1;d0;"), 1);
    due("1", x.ended(), 1);
    due("none", Check.acts(x, ""), 0);
    due("none was", x.ended(), -1);
    due("the 20th", Check.acts(x, Sentences.times("d1;", 19) + "x0;"), 19);
    due("19", x.ended(), 19);
    due("well", Check.acts(x, "d1;"), 1);
    due("none was", x.ended(), -1);
  }

  private static void reasons() {
    DeadCap x = Check.told("p0,2,0,0,0:500,0:500,0;p1,1,0,0,0:500,0;");
    Check.market(x, "1,1,0,100;");
    due("ahead of any", x.why(), 0);
    IntFunction<Integer> act = i -> i == 0 ? x.cut(9) : i == 1 ? x.trade(9) : i == 2 ? x.turn(9, 1) : i == 3 ? x.lower(9, 1)
        : i == 4 ? x.longer(9, 1, 100, 0) : i == 5 ? x.sign(9) : Check.acts(x, "x9;") - 1;
    for (int i = 0; i < 7; i++) {
      due("refused", act.apply(i), -1);
      due("why of act " + i, x.why(), 1);
      due("done", x.days(1), i + 1);
      due("not refused", x.why(), 0);
    }
    Sentences.refused("days", x, a -> a.days(0), 4);
    Sentences.done("turn", x, a -> a.turn(0, 2), 499);
    Sentences.refused("cut", x, a -> a.cut(1), 3);
    Sentences.done("lower", x, a -> a.lower(0, 1), 498);
    Sentences.refused("turn", x, a -> a.turn(0, 99999), 5);
    Sentences.done("longer", x, a -> a.longer(0, 1, 100, 0), 2);
    Sentences.refused("cut", x, a -> a.cut(1), 3);
    Sentences.done("sign", x, a -> a.sign(0), 2);
    Sentences.refused("sign", x, a -> a.sign(0), 1);
    Sentences.done("cut", x, a -> a.cut(0), 2);
    Sentences.refused("trade", x, a -> a.trade(0), 2);
    Sentences.done("trade", x, a -> a.trade(2), 1);
    Sentences.refused("trade", x, a -> a.trade(2), 2);
    Sentences.done("year", x, a -> a.year(), 0);
    Sentences.refused("cut", x, a -> a.cut(0), 2);
    due("an ACT", Check.acts(x, "d1;"), 1);
    due("not refused", x.why(), 0);
  }

  // ---- promises 55, 56 ----

  private static void written() {
    Sentences.holds("RULES are written as ITEMS: d, c, m, then l of all YEARS: how many bytes.", EdgesOfTexts::leastAndMostBytes, 55);
    Sentences.holds("Byte k of what was written latest. NONE: there is none.", EdgesOfTexts::octets, 56);
  }

  private static void setLimits(DeadCap x, String limit) {
    for (int from = 0; from < 20; from += 10) {
      StringBuilder s = new StringBuilder();
      for (int y = from; y < from + 10; y++) {
        s.append('l').append(y).append(',').append(limit).append(';');
      }
      due("l", Check.text(x, s.toString()), 10);
    }
  }

  private static void dueBytes(DeadCap x, String want) {
    due("write", x.write(), want.length());
    for (int i = 0; i < want.length(); i++) {
      due("octet(" + i + ")", x.octet(i), want.charAt(i));
    }
    due("octet(-1)", x.octet(-1), -1);
    due("octet(" + want.length() + ")", x.octet(want.length()), -1);
  }

  private static String limitsAs(String limit) {
    StringBuilder s = new StringBuilder();
    for (int y = 0; y < 20; y++) {
      s.append('l').append(y).append(',').append(limit).append(';');
    }
    return s.toString();
  }

  private static void leastAndMostBytes() {
    DeadCap least = Check.told("d0,0,0;c1;m0;");
    setLimits(least, "0");
    dueBytes(least, "d0,0,0;c1;m0;" + limitsAs("0"));
    DeadCap most = Check.told("d364,364,364;c40;m9999;");
    setLimits(most, "999999");
    dueBytes(most, "d364,364,364;c40;m9999;" + limitsAs("999999"));
    for (String limit : new String[] {"9", "10", "99", "100", "999", "1000", "9999", "10000", "99999", "100000", "100001", "909090"}) {
      DeadCap x = Check.told("d9,10,99;c9;m" + (limit.length() < 5 ? limit : "1001") + ";");
      setLimits(x, limit);
      dueBytes(x, "d9,10,99;c9;m" + (limit.length() < 5 ? limit : "1001") + ";" + limitsAs(limit));
    }
    DeadCap passed = Check.told("l0,999999;l1,999999;d100,101,110;c10;m10;");
    passed.year();
    due("write", passed.write(), 231);
    due("it is no DEED", passed.is(11), 2);
  }

  private static void octets() {
    DeadCap x = new DeadCap();
    for (int k : new int[] {Sentences.MIN, -1, 0, 1, Sentences.MAX}) {
      due("ahead of any: octet(" + k + ")", x.octet(k), -1);
    }
    due("write", x.write(), 231);
    int[] at = {Sentences.MIN, -1, 0, 1, 229, 230, 231, 232, 255, 256, Sentences.MAX};
    int[] want = {-1, -1, 'd', '1', '0', ';', -1, -1, -1, -1, -1};
    for (int i = 0; i < at.length; i++) {
      due("octet(" + at[i] + ")", x.octet(at[i]), want[i]);
    }
    Check.text(x, "d1,2,3;");
    due("the latest", x.octet(5), '2');
    due("write", x.write(), 226);
    due("shorter", x.octet(226), -1);
    due("its last", x.octet(225), ';');
    due("its first number", x.octet(1), '1');
    due("its second", x.octet(3), '2');
    x.undo();
    due("it is not taken back", x.octet(3), '2');
  }
}
