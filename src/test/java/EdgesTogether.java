import java.util.function.ToIntFunction;

/** Edges that meet: answers asked on other DAYS than the first, ties that come by a TURN, the last places of all rows. */
final class EdgesTogether {
  private EdgesTogether() {
  }

  private static void due(String call, long got, long want) {
    Check.due(call, got, want);
  }

  static void run() {
    daysOfAnswers();
    likeOnes();
    oneAmongOthers();
    nothingBetween();
    lastPlaces();
    comesBack();
  }

  // ---- answers as of the DAY that it is ----

  private static void daysOfAnswers() {
    Sentences.holds("BEST DAY of one: 1, if DAY is ahead of CUT DAY and less of YEAR were DEAD by a CUT on CUT DAY than today; else 0.",
        EdgesTogether::bestDayBehindCutDay, 33);
    Sentences.holds("MOST TURNED of a CONTRACT: what BASE of YEAR is above LEAST PAY; by how much COUNT of YEAR were less.",
        EdgesTogether::turnedBySeasonDay, 31);
    Sentences.holds("while ROOM is below a goal, of OPEN ones that have begun, with SAVED above 0, that one is CUT whose SUM is greatest",
        EdgesTogether::policyByRosterDay, 29);
    Sentences.holds("(a number to the base 3, the first of the six the lowest digit: 0 kept, 1 CUT, 2 TURNED)", EdgesTogether::fitByCutDay, 38);
  }

  /** ROSTER DAY is behind CUT DAY: then less is DEAD on CUT DAY than later, too. */
  private static void bestDayBehindCutDay() {
    int[] days = {0, 9, 10, 11, 19, 20, 21, 364};
    int[] dead = {100, 100, 50, 50, 50, 100, 100, 100};
    for (int i = 0; i < days.length; i++) {
      DeadCap x = Sentences.told("d10,20,200;p0,2,0,100,0:100,50:100,0;", 0, days[i]);
      due("would(0, 0) on DAY " + days[i], x.would(0, 0), dead[i]);
      due("bestDay(0) on DAY " + days[i], x.bestDay(0), days[i] < 10 ? 1 : 0);
    }
  }

  /** The first one does not count in full ahead of SEASON DAY: its TURN makes COUNT greater then. */
  private static void turnedBySeasonDay() {
    for (int day : new int[] {0, 199, 200, 201, 364}) {
      DeadCap x = Sentences.told("c1;p0,2,0,0,0:1000,0:100,0;p0,1,0,0,0:2000,0;", 0, day);
      boolean all = day >= 200;
      due("now(0) on DAY " + day, x.now(0), all ? 3000 : 2000);
      due("turned(0, 0) on DAY " + day, x.turned(0, 0), 900);
      due("turned(0, 1) on DAY " + day, x.turned(0, 1), all ? 450 : -450);
      due("turned(1, 1) on DAY " + day, x.turned(1, 1), 0);
      due("turn(0, 900)", x.turn(0, 900), 550);
      due("now(0) then", x.now(0), all ? 2550 : 2450);
    }
  }

  /** From ROSTER DAY on a CUT saves nothing. */
  private static void policyByRosterDay() {
    for (int day : new int[] {0, 19, 20, 21}) {
      DeadCap x = Sentences.told("p0,1,0,0,100:100,300;", 0, day);
      Check.policy(x, "h");
      boolean saves = day < 20;
      due("would(0, 3) on DAY " + day, x.would(0, 3), saves ? 300 : 0);
      due("byPolicy(99601) on DAY " + day, x.byPolicy(99601), saves ? 1 : 0);
      due("now(1)", x.now(1), saves ? 99900 : 99600);
    }
  }

  /** From CUT DAY on ROOM is asked of this YEAR alone, DEAD money of both. */
  private static void fitByCutDay() {
    for (int day : new int[] {149, 150, 151}) {
      boolean early = day < 150;
      DeadCap one = Sentences.told("p0,2,0,1000,0:600,0:100,0;", 0, day);
      due("ROOM", one.now(1), 98900);
      fit(one, 98900, 0, 0, 0);
      fit(one, 98901, 0, 0, 1);
      fit(one, 99150, 0, 0, 1);
      fit(one, 99151, early ? -2 : 1000, early ? -2 : 1, early ? -2 : 0);
      fit(one, 99500, early ? -2 : 1000, early ? -2 : 1, early ? -2 : 0);
      fit(one, 99501, -2, -2, -2);
      DeadCap two = Sentences.told("p0,2,0,1000,0:600,0:100,0;p0,1,0,700,0:500,0;", 0, day);
      due("ROOM", two.now(1), 97700);
      fit(two, 97950, 0, 0, 1);
      fit(two, 97951, 700, 2, 0);
      fit(two, 98200, 700, 2, 0);
      fit(two, 98201, 700, 2, 1);
      fit(two, 98450, 700, 2, 1);
      fit(two, 98451, early ? -2 : 1700, early ? -2 : 3, early ? -2 : 0);
    }
  }

  private static void fit(DeadCap x, int goal, int dead, int cut, int turned) {
    due("fit(" + goal + ", 0)", x.fit(goal, 0), dead);
    due("fit(" + goal + ", 1)", x.fit(goal, 1), cut);
    due("fit(" + goal + ", 2)", x.fit(goal, 2), turned);
  }

  // ---- of like ones the first ----

  private static void likeOnes() {
    Sentences.holds("only the COUNTED greatest ones (of like ones the first) in full, of others their PARTS alone; else all.",
        EdgesTogether::likeByTurn, 16, 31, 36, 38);
    Sentences.holds("The OPEN one with the greatest HIT in a YEAR (of like ones the first).", EdgesTogether::dearest, 46);
  }

  /** The second one has the greater HIT; TURNED it is like the first one, which counts in full then. */
  private static void likeByTurn() {
    DeadCap x = Check.told("c1;p0,1,0,0,0:100,200;p0,2,0,200,0:300,0:100,0;");
    due("now(0)", x.now(0), 400);
    due("allTurned()", x.allTurned(), 99500);
    due("turned(1, 0)", x.turned(1, 0), 200);
    due("turned(1, 1)", x.turned(1, 1), -100);
    fit(x, 99600, 0, 0, 0);
    fit(x, 99601, 0, 1, 2);
    fit(x, 99650, 0, 1, 2);
    fit(x, 99700, 0, 1, 2);
    fit(x, 99701, 200, 3, 0);
    due("turn(1, 200)", x.turn(1, 200), 300);
    due("now(0) then", x.now(0), 500);
    due("contract(0, 7)", x.contract(0, 7), 1);
    due("contract(1, 7)", x.contract(1, 7), 0);
  }

  /** HITS are told apart, not BASE alone. */
  private static void dearest() {
    String bonus = "p0,1,0,500,0:500,0;";
    String roster = "p0,1,0,0,0:500,500;";
    String[] firsts = {bonus, roster, "p0,1,0,0,0:1000,0;"};
    for (String first : firsts) {
      for (int base = 999; base <= 1001; base++) {
        DeadCap x = Check.told(first + "p0,1,0,0,0:700,0;p0,1,0,0,0:" + base + ",0;p0,1,0,0,0:800,0;");
        due("dearest(0)", x.dearest(0), base > 1000 ? 2 : 0);
        due("ranked(0)", x.ranked(0), base > 1000 ? 2 : 0);
      }
    }
  }

  // ---- one that is not the first, or has not begun ----

  private static void oneAmongOthers() {
    Sentences.holds("ALL TURNED: ROOM, if of each OPEN one that has begun MOST were TURNED.", EdgesTogether::turnedBehindOthers, 36);
    Sentences.holds("x CONTRACT (CUT) | t CONTRACT , AMOUNT (TURN) | d DAYS | y (a YEAR).", EdgesTogether::actsOfEach, 7);
    Sentences.holds("what was not LIKELY and is EARNED goes off it (of CONTRACTS that are OPEN till then;", EdgesTogether::promisesAhead, 16, 21, 22, 27);
  }

  /** Those ahead of it are CUT, over, not begun: none of that hides the last one. */
  private static void turnedBehindOthers() {
    String last = "p1,1,1,0,0:300,0;";
    for (String others : new String[] {"", "p0,1,0,0,0:100,0;", "p1,1,0,0,0:900,0;p0,1,0,0,0:100,0;", "p2,1,0,0,0:900,0;p2,1,0,0,0:900,0;"}) {
      DeadCap x = Check.told("l0,0;" + others + last);
      x.year();
      if (others.startsWith("p1")) {
        x.cut(0);
      }
      due("ROOM", x.now(1), 99700);
      due("allTurned() behind " + others, x.allTurned(), 99800);
    }
  }

  private static void actsOfEach() {
    for (int k = 0; k < 3; k++) {
      DeadCap x = Check.told("p0,1,0,0,0:500,0;p0,1,0,0,0:500,0;p0,1,0,0,0:500,0;");
      due("acts", Check.acts(x, "t" + k + ",50;d" + (k + 1) + ";"), 2);
      for (int j = 0; j < 3; j++) {
        due("coins(" + j + ", 0)", x.coins(j, 0), j == k ? 50 : 0);
        due("pay(" + j + ", 0, 0)", x.pay(j, 0, 0), j == k ? 450 : 500);
      }
      due("DAY", x.is(1), k + 1);
      due("acts", Check.acts(x, "x" + k + ";"), 1);
      for (int j = 0; j < 3; j++) {
        due("contract(" + j + ", 4)", x.contract(j, 4), j == k ? 1 : 0);
      }
    }
  }

  /** One that has not begun is OPEN: its PROMISES count, can be EARNED, and come to the new LIMIT, too. */
  private static void promisesAhead() {
    for (int first = 0; first < 3; first++) {
      DeadCap x = Check.told("l0,1000;p" + first + ",2,0,0,0:100,0:100,0;");
      int hit = first == 0 ? 100 : 0;
      x.promise(0, 0, 50, true);
      due("now(0)", x.now(0), hit + 50);
      x.promise(0, 0, 30, false);
      due("now(0)", x.now(0), hit + 50);
      due("earn", x.earn(1), 30);
      due("year", x.year(), 0);
      due("limit(1)", x.limit(1), 100000 + 1000 - hit - 50 + 50 - 30);
      x.undo();
      due("earn", x.earn(0), 50);
      x.year();
      due("limit(1)", x.limit(1), 100000 + 1000 - hit - 50 - 30);
    }
  }

  // ---- a ; with nothing ahead of it ----

  private static void nothingBetween() {
    Sentences.holds("THE TEXT: ITEMS, each with ; behind, no blanks:", () -> lonelyEnd(DeadCap::text, "c7;"), 4, 8);
    Sentences.holds("THE MARKET, a text: { WORTH , YEARS , BONUS , BASE ; }", () -> lonelyEnd(DeadCap::market, "1,1,0,100;"), 6, 8);
    Sentences.holds("ACTS, a text: { ACT ; }, 20 at most, no blanks:", () -> lonelyEnd(DeadCap::acts, "d1;"), 7, 8);
    Sentences.holds("PART: THING { * THING };", () -> {
      for (String wrong : new String[] {";", ")", "+", "-", "*", " ", "z"}) {
        faultOf(DeadCap::policy, wrong, 0);
        faultOf(DeadCap::policy, "(" + wrong, 1);
        faultOf(DeadCap::policy, "h+" + wrong, 2);
        faultOf(DeadCap::policy, "h*" + wrong, 2);
      }
    }, 5, 8);
  }

  private static void lonelyEnd(ToIntFunction<DeadCap> read, String one) {
    for (String wrong : new String[] {";", ";;", ";" + one, " ", ",", "0;", (char) 0 + ";", (char) 255 + ";"}) {
      faultOf(read, wrong, 0);
      faultOf(read, one + wrong, one.length());
    }
  }

  private static void faultOf(ToIntFunction<DeadCap> read, String text, int place) {
    DeadCap x = new DeadCap();
    Check.tape(x, text);
    Check.faultAt(text, x, read.applyAsInt(x), place);
    due("no DEED", x.is(11), 0);
    due("the tape is empty", x.is(12), 0);
  }

  // ---- the last places ----

  private static void lastPlaces() {
    Sentences.holds("A CONTRACT (40 at most; numbers as they come, for good)", EdgesTogether::fortieth, 14, 16, 17, 21, 31, 36, 44);
    Sentences.holds("The latest DEED is taken back: how many still can be.", EdgesTogether::takenBack, 32, 41, 42, 52);
    Sentences.holds("All is as KEPT as k: true (a DEED);", EdgesTogether::placeOfTenYears, 14, 15, 20, 34, 41, 54);
    Sentences.holds("PROMISES (24): to an OPEN CONTRACT, for a YEAR, an amount, LIKELY or not;", EdgesTogether::lastPromise, 21, 49, 52, 54);
    Sentences.holds("12 OFFERS at most, no blanks", EdgesTogether::lastOffer, 47, 52, 54);
    Sentences.holds("(to 10 YEARS and VOID ones in all; VOID ones, too, by 19)", EdgesTogether::tenthYear, 15, 23, 25, 41, 52, 54);
  }

  /** One that was taken back stands nowhere; behind the fortieth there is none. */
  private static void takenBack() {
    for (int before : new int[] {0, 1, 39}) {
      DeadCap x = Sentences.crowd(before);
      Check.text(x, "p0,6,2,1000,50" + Sentences.times(":900,9", 6) + ";");
      due("the last YEAR", x.turn(before, 100) > 0 ? 1 : 0, 1);
      due("ahead(1)", x.ahead(1), 909 + 200 + 20);
      due("allCash(1)", x.allCash(1), 909);
      x.undo();
      due("ahead(1)", x.ahead(1), 909 + 200);
      x.undo();
      due("ahead(1)", x.ahead(1), 0);
      due("over(10)", x.over(10), 0);
      due("allCash(0)", x.allCash(0), 100 * before);
      due("allCash(1)", x.allCash(1), 0);
      due("dearest(1)", x.dearest(1), before == 0 ? -2 : 0);
      due("is(8)", x.is(8), before);
      due("contract", x.contract(before, 0), -1);
      due("ranked", x.ranked(before), -1);
      due("allTurned", x.allTurned(), 100000 - Math.min(20, before) * 100);
      due("tag(40)", x.tag(40), before == 0 ? -2 : 100);
      due("set", x.set(100001, 0), -2);
      due("fit", x.fit(100001, 0), -2);
    }
  }

  private static void fortieth() {
    for (int day : new int[] {199, 200}) {
      DeadCap x = Sentences.crowd(40);
      x.days(day);
      boolean all = day == 200;
      due("now(0)", x.now(0), all ? 4000 : 2000);
      due("counted(1)", x.counted(1), all ? 0 : 20);
      due("counted(0)", x.counted(0), 100);
      due("contract(39, 7)", x.contract(39, 7), all ? 1 : 0);
      due("promise", x.promise(39, 0, 77, true), 0);
      due("now(0)", x.now(0), all ? 4077 : 2077);
      due("would(39, 3)", x.would(39, 3), all ? 177 : 77);
      due("would(38, 3)", x.would(38, 3), all ? 100 : 0);
      DeadCap last = Sentences.crowd(39);
      Check.text(last, "p0,1,1,0,0:300,0;");
      last.days(day);
      due("now(0)", last.now(0), all ? 4200 : 2200);
      due("ranked(0)", last.ranked(0), 39);
      due("turned(39, 0)", last.turned(39, 0), 200);
      due("turned(39, 1)", last.turned(39, 1), 100);
      due("allTurned()", last.allTurned(), all ? 95900 : 97900);
      due("turn(39, 200)", last.turn(39, 200), 200);
      due("now(0)", last.now(0), all ? 4100 : 2100);
    }
  }

  private static void duePromise(DeadCap x, int contract, int year, int amount, int likely, int earned) {
    int[] want = {contract, year, amount, likely, earned, -1};
    for (int what = 0; what < want.length; what++) {
      due("promised(23, " + what + ")", x.promised(23, what), want[what]);
    }
  }

  private static void lastPromise() {
    DeadCap x = Check.told("p0,6,0,0,0" + Sentences.pays(6) + ";p0,1,0,0,0:100,0;");
    for (int i = 0; i < 23; i++) {
      due("promise", x.promise(0, 0, 1, false), i);
    }
    due("promise", x.promise(1, 0, 99, true), 23);
    due("promise", x.promise(1, 0, 99, true), -1);
    due("earn", x.earn(23), 99);
    due("keep(0)", x.keep(0) ? 1 : 0, 1);
    x.undo();
    x.undo();
    due("promised", x.promised(23, 0), -1);
    due("promise", x.promise(0, 5, 7, false), 23);
    duePromise(x, 0, 5, 7, 0, 0);
    x.restore(0);
    duePromise(x, 1, 0, 99, 1, 1);
    Check.text(x, "c7;");
    duePromise(x, 1, 0, 99, 1, 1);
    x.undo();
    x.undo();
    duePromise(x, 0, 5, 7, 0, 0);
    due("now(0)", x.now(0), 200);
    x.restore(0);
    due("now(0)", x.now(0), 299);
  }

  private static String offers(int add) {
    StringBuilder b = new StringBuilder();
    for (int i = 0; i < 12; i++) {
      b.append(i + 1 + add).append(',').append(1 + (i + add) % 6).append(',').append(60 * (i + add)).append(',').append(100 + i + add).append(';');
    }
    return b.toString();
  }

  private static void dueOffers(DeadCap x, int add) {
    for (int i = 0; i < 12; i++) {
      due("WORTH", x.offer(i, 0), i + 1 + add);
      due("YEARS", x.offer(i, 1), 1 + (i + add) % 6);
      due("BONUS", x.offer(i, 2), 60 * (i + add));
      due("BASE", x.offer(i, 3), 100 + i + add);
    }
    due("no other", x.offer(12, 0), -1);
  }

  private static void lastOffer() {
    DeadCap x = new DeadCap();
    due("market", Check.market(x, offers(0)), 12);
    dueOffers(x, 0);
    x.keep(0);
    due("market", Check.market(x, offers(1)), 12);
    dueOffers(x, 1);
    x.restore(0);
    dueOffers(x, 0);
    x.undo();
    dueOffers(x, 1);
    Check.text(x, "c7;");
    dueOffers(x, 1);
    due("no MARKET", Check.market(x, offers(2) + "1,1,0,100;"), -1);
    dueOffers(x, 1);
    x.undo();
    x.undo();
    dueOffers(x, 0);
  }

  private static void dueTenth(DeadCap x, int base, int parts, int cash) {
    due("pay(0, 9, 0)", x.pay(0, 9, 0), base);
    due("pay(0, 9, 1)", x.pay(0, 9, 1), 0);
    due("pay(0, 9, 2)", x.pay(0, 9, 2), parts);
    due("contract(0, 6)", x.contract(0, 6), base + parts);
    due("coins(0, 0)", x.coins(0, 0), parts);
    due("cash(0, 9)", x.cash(0, 9), cash);
    due("allCash(9)", x.allCash(9), cash);
  }

  private static void tenthYear() {
    DeadCap x = Check.told("p0,6,0,0,0" + Sentences.pays(6) + ";");
    due("longer", x.longer(0, 4, 900, 0), 9);
    Sentences.years(x, 9);
    dueTenth(x, 900, 0, 900);
    due("piece", x.piece(0, 100, 0), 100);
    due("piece", x.piece(0, 100, 1), 0);
    due("turn", x.turn(0, 100), 900);
    dueTenth(x, 800, 100, 900);
    due("lower", x.lower(0, 50), 850);
    dueTenth(x, 750, 100, 850);
    x.keep(0);
    x.undo();
    dueTenth(x, 800, 100, 900);
    x.undo();
    dueTenth(x, 900, 0, 900);
    x.restore(0);
    dueTenth(x, 750, 100, 850);
    Check.text(x, "c7;");
    dueTenth(x, 750, 100, 850);
    x.undo();
    x.undo();
    dueTenth(x, 900, 0, 900);
    due("over", x.year(), 1);
    due("contract(0, 4)", x.contract(0, 4), 2);
  }

  /** A CONTRACT of ten YEARS was there, with money in each of them; what comes in its place has its own alone. */
  private static void placeOfTenYears() {
    DeadCap x = new DeadCap();
    Check.market(x, "1,2,7,300;");
    x.keep(0);
    for (int round = 0; round < 4; round++) {
      due("text", Check.text(x, "p0,6,0,500,50" + Sentences.times(":900,9", 6) + ";"), 1);
      due("longer", x.longer(0, 4, 900, 50), 9);
      for (int y = 0; y < 10; y++) {
        due("HIT", x.turn(0, 5) > 0 ? 1 : 0, 1);
        x.year();
      }
      due("coins(0, 0)", x.coins(0, 0), 600);
      x.restore(0);
      if (round % 2 == 1) {
        due("text", Check.text(x, "p0,2,0,7,0:300,0:300,0;"), 1);
      } else {
        due("sign", x.sign(0), 0);
      }
      dueOfTwoYears(x);
      x.restore(0);
      due("no CONTRACTS", x.is(7), 0);
    }
  }

  private static void dueOfTwoYears(DeadCap x) {
    due("coins(0, 0)", x.coins(0, 0), 7);
    due("coins(0, 3)", x.coins(0, 3), 3);
    due("would(0, 2)", x.would(0, 2), 7);
    for (int y = 0; y < 20; y++) {
      due("pay(0, " + y + ", 0)", x.pay(0, y, 0), y < 2 ? 300 : 0);
      due("pay(0, " + y + ", 1)", x.pay(0, y, 1), 0);
      due("pay(0, " + y + ", 2)", x.pay(0, y, 2), y == 0 ? 4 : y == 1 ? 3 : 0);
      due("cash(0, " + y + ")", x.cash(0, y), y == 0 ? 307 : y == 1 ? 300 : 0);
    }
  }

  // ---- each YEAR comes back ----

  private static void comesBack() {
    Sentences.holds("All is KEPT as k (0, 1): true; false for others.", EdgesTogether::everyYear, 12, 13, 52, 53, 54);
  }

  private static void everyYear() {
    for (int y = 0; y < 20; y++) {
      DeadCap x = Sentences.inYear(y);
      int limit = x.limit(y);
      x.keep(0);
      Check.text(x, "l" + y + ",7;p" + y + ",1,0,500,0:100,0;");
      x.cut(0);
      x.keep(1);
      dueOfYear(x, y, 7, 500);
      Check.text(x, "c7;");
      dueOfYear(x, y, 7, 500);
      x.undo();
      dueOfYear(x, y, 7, 500);
      x.undo();
      dueOfYear(x, y, 7, 0);
      x.undo();
      dueOfYear(x, y, limit, 0);
      due("restore(1)", x.restore(1) ? 1 : 0, 1);
      dueOfYear(x, y, 7, 500);
      due("restore(0)", x.restore(0) ? 1 : 0, 1);
      dueOfYear(x, y, limit, 0);
      Check.text(x, "c7;");
      dueOfYear(x, y, limit, 0);
    }
  }

  private static void dueOfYear(DeadCap x, int y, int limit, int dead) {
    due("limit(" + y + ")", x.limit(y), limit);
    due("dead(" + y + ")", x.dead(y), dead);
  }
}
