import java.util.function.IntFunction;

/** Sentences that name an edge of what is done: CUTS, PROMISES, TURNS, LONGER ones, DAYS, YEARS, DEEDS. */
final class EdgesOfActs {
  private static final int MIN = Sentences.MIN;
  private static final int MAX = Sentences.MAX;

  private EdgesOfActs() {
  }

  private static void due(String call, long got, long want) {
    Check.due(call, got, want);
  }

  private static void due(String call, boolean got, boolean want) {
    Check.due(call, got, want);
  }

  static void run() {
    deadMoney();
    counting();
    promises();
    yearsGoBy();
    cuts();
    pay();
    longerOnes();
    market();
    byPolicy();
    takenBack();
  }

  /** Days around one, as far as there are such. */
  private static int[] around(int day) {
    if (day == 0) {
      return new int[] {0, 1};
    }
    return day == 364 ? new int[] {363, 364} : new int[] {day - 1, day, day + 1};
  }

  // ---- what is DEAD by a CUT: promises 13, 17 to 19 ----

  private static void deadMoney() {
    Sentences.holds("this YEAR's BASE, if it is sure (SURE of a hundred of it in its FIRST YEAR, cut; else none);", EdgesOfActs::sureBase, 13, 17, 18);
    Sentences.holds("ROSTER BONUS, if DAY is ROSTER DAY or behind;", EdgesOfActs::rosterDay, 13, 17, 18);
    Sentences.holds("ahead of CUT DAY all this YEAR; from it on this YEAR's now, all others the next YEAR", EdgesOfActs::cutDay, 13, 17, 18, 19);
    Sentences.holds("(in YEAR 19: now).", EdgesOfActs::cutInYear19, 13, 17, 18, 19);
    Sentences.holds("What is DEAD stays with its YEAR.", EdgesOfActs::deadStays, 13);
    Sentences.holds("TRADED: as a CUT, but PARTS alone are DEAD by it (2); it is CUT then.", EdgesOfActs::traded, 19);
    Sentences.holds("When it is over with PARTS yet to come (VOID YEARS) these are all DEAD in the YEAR behind its YEARS.", EdgesOfActs::over, 13, 27);
    Sentences.holds("It is OPEN from being told until it is CUT or over (in the YEAR behind its YEARS).", EdgesOfActs::open, 11, 14, 27);
  }

  private static void dueDead(String of, int want) {
    DeadCap x = Check.told(of);
    due("would(0, 0) of " + of, x.would(0, 0), want);
    due("would(0, 2) of " + of, x.would(0, 2), want);
    due("cut", x.cut(0), 0);
    due("dead(0) of " + of, x.dead(0), want);
  }

  private static void sureBase() {
    int[] sure = {0, 1, 2, 50, 99, 100};
    int[] of199 = {0, 1, 3, 99, 197, 199};
    for (int i = 0; i < sure.length; i++) {
      dueDead("p0,1,0,0," + sure[i] + ":199,0;", of199[i]);
    }
    int[] base = {0, 1, 99, 100, 101, 199, 200, 99999};
    int[] oneOfHundred = {0, 0, 0, 1, 1, 1, 2, 999};
    for (int i = 0; i < base.length; i++) {
      dueDead("m0;p0,1,0,0,1:" + base[i] + ",0;", oneOfHundred[i]);
      dueDead("m0;p0,1,0,0,100:" + base[i] + ",0;", base[i]);
    }
    String three = "p1,3,0,0,100:500,0:600,0:700,0;";
    int[] byYear = {500, 0, 0};
    for (int y = 1; y <= 3; y++) {
      DeadCap x = Sentences.told(three, y, 0);
      due("would(0, 0) in YEAR " + y, x.would(0, 0), byYear[y - 1]);
      x.cut(0);
      due("dead(" + y + ")", x.dead(y), byYear[y - 1]);
    }
    DeadCap less = Check.told("p0,1,0,0,50:500,0;");
    less.lower(0, 300);
    due("of BASE as it is", less.would(0, 0), 100);
  }

  private static void rosterDay() {
    for (int r : new int[] {0, 1, 20, 363, 364}) {
      for (int day : around(r)) {
        String s = "d0," + r + ",0;p0,2,0,0,0:100,70:100,90;";
        DeadCap x = Sentences.told(s, 0, day);
        int want = day >= r ? 70 : 0;
        due("would(0, 0)", x.would(0, 0), want);
        due("would(0, 2)", x.would(0, 2), want);
        x.cut(0);
        due("dead(0)", x.dead(0), want);
        due("dead(1)", x.dead(1), 0);
        DeadCap second = Sentences.told(s, 1, day);
        due("of this YEAR", second.would(0, 0), day >= r ? 90 : 0);
      }
    }
  }

  private static void cutDay() {
    for (int c : new int[] {0, 1, 150, 363, 364}) {
      for (int day : around(c)) {
        for (boolean traded : new boolean[] {false, true}) {
          DeadCap x = Sentences.told("d" + c + ",0,0;p0,3,0,3001,0:100,0:100,0:100,0;", 0, day);
          boolean early = day < c;
          due("now", x.would(0, 0), early ? 3001 : 1001);
          due("the next", x.would(0, 1), early ? 0 : 2000);
          due("in all", x.would(0, 2), 3001);
          due("OPEN", traded ? x.trade(0) : x.cut(0), 0);
          due("dead(0)", x.dead(0), early ? 3001 : 1001);
          due("dead(1)", x.dead(1), early ? 0 : 2000);
          due("dead(2)", x.dead(2), 0);
        }
      }
    }
  }

  private static void cutInYear19() {
    String s = "p17,3,0,3001,0:100,0:100,0:100,0;";
    int[] yearOf = {17, 17, 18, 18, 18, 19, 19, 19};
    int[] dayOf = {149, 150, 149, 150, 151, 149, 150, 151};
    int[] now = {3001, 1001, 2000, 1000, 1000, 1000, 1000, 1000};
    int[] next = {0, 2000, 0, 1000, 1000, 0, 0, 0};
    for (int i = 0; i < yearOf.length; i++) {
      for (boolean traded : new boolean[] {false, true}) {
        DeadCap x = Sentences.told(s, yearOf[i], dayOf[i]);
        due("now", x.would(0, 0), now[i]);
        due("the next", x.would(0, 1), next[i]);
        due("in all", x.would(0, 2), now[i] + next[i]);
        due("OPEN", traded ? x.trade(0) : x.cut(0), 0);
        due("dead of YEAR", x.dead(yearOf[i]), now[i]);
        due("dead of the next", x.dead(yearOf[i] + 1), yearOf[i] == 19 ? -1 : next[i]);
      }
    }
    DeadCap many = Sentences.told("p19,1,0,500,0:100,0;p18,2,0,1000,0:100,0:100,0;", 19, 200);
    due("SAVED", many.would(1, 3), 100);
    many.cut(0);
    many.cut(1);
    due("all in YEAR 19", many.dead(19), 1000);
    due("COUNT", many.now(0), 1000);
  }

  private static void deadStays() {
    DeadCap x = Sentences.told("p0,3,0,3001,0:100,0:100,0:100,0;p0,1,2,900,0:100,0;", 0, 150);
    x.cut(0);
    for (int y = 0; y <= 3; y++) {
      due("dead(0)", x.dead(0), 1001);
      due("dead(1)", x.dead(1), y == 0 ? 2000 : 2600);
      due("dead(2)", x.dead(2), 0);
      due("COUNT of YEAR " + y, x.now(0), new int[] {1401, 2600, 0, 0}[y]);
      x.year();
    }
  }

  private static void traded() {
    for (int day : new int[] {0, 19, 20, 21}) {
      DeadCap x = Sentences.told("p0,2,0,501,100:100,70:100,0;p0,1,0,0,100:300,0;", 0, day);
      due("trade", x.trade(0), 1);
      due("PARTS alone", x.dead(0), 501);
      due("it is CUT", x.contract(0, 4), 1);
      due("no PARTS", x.trade(1), 0);
      due("nothing more", x.dead(0), 501);
      Sentences.refused("trade again", x, a -> a.trade(0), 2);
      Sentences.refused("cut then", x, a -> a.cut(0), 2);
    }
    DeadCap cut = Sentences.told("p0,2,0,501,100:100,70:100,0;", 0, 20);
    due("by a CUT it were more", cut.would(0, 0), 671);
  }

  private static void over() {
    int[] byVoid = {0, 501, 668, 750, 800};
    for (int v = 0; v <= 4; v++) {
      DeadCap x = Check.told("p0,1," + v + ",1003,0:100,0;");
      due("dead(1) ahead of it", x.dead(1), 0);
      due("it is over", x.year(), 1);
      due("VOID " + v, x.dead(1), byVoid[v]);
      due("all in that YEAR", x.dead(2), 0);
      due("PARTS of the YEAR ahead counted", x.dead(0), 0);
    }
    // five PARTS: of 4 YEARS and 1 VOID one PART is left, of 5 and of 6 YEARS none
    int[] byYears = {0, 800, 600, 400, 200, 0, 0};
    for (int n = 1; n <= 6; n++) {
      DeadCap x = Sentences.told("p0," + n + ",4,1003,0" + Sentences.pays(n) + ";", n, 0);
      due("YEARS " + n, x.dead(n), byYears[n]);
      due("it is over", x.contract(0, 4), 2);
    }
    DeadCap last = Sentences.told("p18,1,1,901,0:100,0;p17,3,0,902,0" + Sentences.pays(3) + ";", 19, 0);
    due("over in YEAR 19", last.dead(19), 450);
    due("one whose YEARS go to 19 is OPEN", last.contract(1, 4), 0);
    DeadCap cut = Sentences.told("p0,1,2,903,0:100,0;", 0, 150);
    cut.cut(0);
    due("a CUT one is not over", cut.year(), 0);
    due("its PARTS come once", cut.dead(1), 602);
  }

  private static void open() {
    int[] states = {0, 0, 0, 2, 2};
    for (int y = 0; y < states.length; y++) {
      DeadCap x = Sentences.told("p1,2,1,0,0:100,0:100,0;", y, 0);
      due("state in YEAR " + y, x.contract(0, 4), states[y]);
      due("OPEN", x.is(8), states[y] == 0 ? 1 : 0);
      due("CUT", x.is(9), 0);
      due("over", x.is(10), states[y] == 2 ? 1 : 0);
    }
    DeadCap last = Sentences.told("p18,1,0,0,0:100,0;p19,1,0,0,0:100,0;", 19, 0);
    due("to 18: over", last.contract(0, 4), 2);
    due("to 19: OPEN", last.contract(1, 4), 0);
    last.days(364);
    due("on its last DAY, too", last.contract(1, 4), 0);
    last.cut(1);
    due("CUT", last.contract(1, 4), 1);
    due("OPEN ones", last.is(8), 0);
    due("CUT ones", last.is(9), 1);
    due("those that are over", last.is(10), 1);
  }

  // ---- COUNT, ROOM: promises 14, 16, 44 ----

  private static void counting() {
    Sentences.holds("of YEAR, ahead of SEASON DAY, only the COUNTED greatest ones (of like ones the first) in full, of others their PARTS alone; else all.",
        EdgesOfActs::countedGreatest, 14, 16, 44);
    Sentences.holds("ROOM: LIMIT less COUNT.", EdgesOfActs::room, 16);
  }

  private static void countedGreatest() {
    for (int s : new int[] {0, 1, 200, 363, 364}) {
      for (int day : around(s)) {
        DeadCap x = Sentences.told("c1;d0,0," + s + ";p0,1,0,30,0:100,0;p0,1,0,20,0:100,0;", 0, day);
        boolean ahead = day < s;
        due("COUNT on DAY " + day, x.now(0), ahead ? 150 : 250);
        due("1 counts in full", x.contract(1, 7), ahead ? 0 : 1);
        due("the least that does", x.counted(0), ahead ? 130 : 120);
        due("how many don't", x.counted(1), ahead ? 1 : 0);
      }
    }
    String three = "p0,1,0,10,0:100,0;p0,1,0,30,0:100,0;p0,1,0,20,0:100,0;";
    int[] counts = {160, 260, 360, 360};
    int[] least = {130, 120, 110, 110};
    for (int c = 1; c <= 4; c++) {
      DeadCap x = Check.told("c" + c + ";" + three);
      due("COUNT of COUNTED " + c, x.now(0), counts[c - 1]);
      due("the least", x.counted(0), least[c - 1]);
      due("how many don't", x.counted(1), Math.max(0, 3 - c));
    }
    DeadCap forty = Sentences.crowd(40);
    for (int c = 38; c <= 40; c++) {
      Check.text(forty, "c" + c + ";");
      due("COUNT of 40", forty.now(0), 100 * c);
      due("the last one", forty.contract(39, 7), c == 40 ? 1 : 0);
      due("the 39th", forty.contract(38, 7), c >= 39 ? 1 : 0);
    }
    // HITS of 130 and of 129 to 131; PARTS of 30 and 20
    int[] second = {109, 110, 111};
    int[] count = {150, 150, 161};
    for (int i = 0; i < 3; i++) {
      DeadCap x = Check.told("c1;p0,1,0,30,0:100,0;p0,1,0,20,0:" + second[i] + ",0;");
      due("COUNT", x.now(0), count[i]);
      due("the first counts in full", x.contract(0, 7), i < 2 ? 1 : 0);
      due("the second", x.contract(1, 7), i < 2 ? 0 : 1);
    }
  }

  private static void room() {
    int[] limits = {0, 99, 100, 101, 999999};
    for (int limit : limits) {
      DeadCap x = Check.told("l0," + limit + ";p0,1,0,0,0:100,0;");
      due("ROOM of LIMIT " + limit, x.now(1), limit - 100);
      due("COUNT", x.now(0), 100);
    }
    DeadCap dead = Check.told("l0,100;p0,2,0,101,0:100,0:100,0;");
    dead.cut(0);
    due("DEAD money counts", dead.now(1), -1);
  }

  // ---- PROMISES: promises 21, 22, 49 ----

  private static void promises() {
    Sentences.holds("PROMISES (24): to an OPEN CONTRACT, for a YEAR, an amount, LIKELY or not;", EdgesOfActs::twentyFour, 21, 49);
    Sentences.holds("A PROMISE (amount 1 to 99999) for a YEAR (this one, or one to come): its number.", EdgesOfActs::amountAndYear, 21, 49);
    Sentences.holds("NONE: no OPEN CONTRACT, others, there are 24.", EdgesOfActs::noOpenContract, 21);
    Sentences.holds("they can be EARNED in their YEAR (while it is OPEN).", EdgesOfActs::earnedInItsYear, 22);
    Sentences.holds("NONE: no such PROMISE, it is already, it isn't its YEAR, its CONTRACT isn't OPEN.", EdgesOfActs::earned, 22);
    Sentences.holds("COUNT of YEAR has those of OPEN ones for that YEAR, too, that are LIKELY (all, ahead of SEASON DAY, too; so in FIT).",
        EdgesOfActs::likelyCounts, 16, 21, 38);
    Sentences.holds("what of that YEAR was LIKELY and is not EARNED comes to the LIMIT of the new one, what was not LIKELY and is EARNED goes off it",
        EdgesOfActs::settled, 22, 27);
    Sentences.holds("(of CONTRACTS that are OPEN till then; LIMIT is 0 to 999999 behind all of it together)", EdgesOfActs::settledTogether, 12, 27);
  }

  private static void twentyFour() {
    DeadCap x = Sentences.crowd(2);
    for (int i = 0; i < 24; i++) {
      due("there is no PROMISE " + i, x.promised(i, 0), -1);
      due("PROMISE " + i, x.promise(i & 1, 0, i + 1, true), i);
      due("its CONTRACT", x.promised(i, 0), i & 1);
    }
    int deeds = x.is(11);
    due("the 25th", x.promise(0, 0, 1, true), -1);
    due("the 25th, not LIKELY, later", x.promise(0, 19, 1, false), -1);
    due("no DEED", x.is(11), deeds);
    due("there is no PROMISE 24", x.promised(24, 0), -1);
    due("COUNT", x.now(0), 200 + 300);
    due("an EARNED one", x.earn(0), 1);
    due("is one still", x.promise(0, 0, 1, true), -1);
    x.cut(1);
    due("those of CUT ones, too", x.promise(0, 0, 1, true), -1);
    x.undo();
    x.undo();
    due("one is taken back", x.undo(), 5);
    DeadCap full = Check.told("l0,0;l1,0;p0,2,0,0,0:100,0:100,0;");
    for (int i = 0; i < 24; i++) {
      full.promise(0, i < 12 ? 0 : 1, 1, true);
    }
    due("COUNT of 24", full.now(0), 112);
    due("the next YEAR", full.ahead(1), 112);
    due("is above its LIMIT", full.over(1), 1);
    due("FIT", full.fit(-112, 1), 0);
    full.year();
    due("what was LIKELY and is not EARNED", full.limit(1), 12);
    due("COUNT of the others", full.now(0), 112);
    due("the 24th again", x.promise(0, 0, 77, false), 23);
    due("its amount", x.promised(23, 2), 77);
    due("the 25th", x.promise(0, 0, 1, true), -1);
  }

  private static void amountAndYear() {
    for (int amount : new int[] {MIN, -1, 0, 1, 2, 99998, 99999, 100000, MAX}) {
      DeadCap x = Sentences.crowd(1);
      boolean well = amount >= 1 && amount <= 99999;
      due("amount " + amount, x.promise(0, 0, amount, true), well ? 0 : -1);
      due("promised", x.promised(0, 2), well ? amount : -1);
      due("DEEDS", x.is(11), well ? 2 : 1);
    }
    for (int now : new int[] {0, 1, 3, 18, 19}) {
      for (int y : new int[] {MIN, -1, 0, now - 1, now, now + 1, 18, 19, 20, MAX}) {
        DeadCap x = Sentences.inYear(now);
        Check.text(x, "p" + now + ",1,0,0,0:100,0;");
        boolean well = y >= now && y <= 19;
        due("YEAR " + y + " in " + now, x.promise(0, y, 5, false), well ? 0 : -1);
        due("promised", x.promised(0, 1), well ? y : -1);
      }
    }
  }

  private static void noOpenContract() {
    for (int k : new int[] {MIN, -1, 0, 1, 2, 3, MAX}) {
      DeadCap x = Sentences.crowd(3);
      due("promise to " + k, x.promise(k, 0, 5, true), k >= 0 && k <= 2 ? 0 : -1);
    }
    DeadCap x = Check.told("p0,1,0,0,0:100,0;p0,1,1,9,0:100,0;p1,1,0,0,0:100,0;");
    due("not begun", x.promise(2, 0, 5, true), 0);
    x.cut(0);
    due("CUT", x.promise(0, 0, 5, true), -1);
    due("in its last YEAR", x.promise(1, 0, 5, true), 1);
    x.year();
    due("over", x.promise(1, 1, 5, true), -1);
    due("begun", x.promise(2, 1, 5, true), 2);
    due("no CONTRACTS", new DeadCap().promise(0, 0, 5, true), -1);
  }

  private static void earnedInItsYear() {
    for (int of : new int[] {1, 2, 18, 19}) {
      for (int y = of - 1; y <= Math.min(19, of + 1); y++) {
        for (int cutIn = y; cutIn <= y + 1; cutIn++) {
          DeadCap x = Sentences.inYear(of - 1);
          Check.text(x, "p" + (of - 1) + ",1,0,0,0:100,0;");
          x.longer(0, Math.min(2, 20 - of), 100, 0);
          x.promise(0, of, 7, true);
          Sentences.years(x, y - of + 1);
          if (cutIn == y) {
            due("cut", x.cut(0), 0);
          }
          boolean well = y == of && cutIn > y;
          due("PROMISE for " + of + " in " + y + (cutIn == y ? ", CUT" : ""), x.earn(0), well ? 7 : -1);
          due("EARNED", x.promised(0, 4), well ? 1 : 0);
        }
      }
    }
  }

  private static void earned() {
    for (int i : new int[] {MIN, -1, 0, 1, 2, 3, 24, MAX}) {
      DeadCap x = Sentences.crowd(1);
      for (int j = 1; j <= 3; j++) {
        x.promise(0, 0, j, true);
      }
      due("earn(" + i + ")", x.earn(i), i >= 0 && i <= 2 ? i + 1 : -1);
      due("DEEDS", x.is(11), i >= 0 && i <= 2 ? 5 : 4);
      due("EARNED", x.promised(2, 4), i == 2 ? 1 : 0);
    }
    int[] byYear = {-1, 7, -1};
    for (int y = 0; y < 3; y++) {
      DeadCap x = Check.told("p0,3,0,0,0" + Sentences.pays(3) + ";");
      x.promise(0, 1, 7, false);
      Sentences.years(x, y);
      due("in YEAR " + y, x.earn(0), byYear[y]);
      due("EARNED", x.promised(0, 4), y == 1 ? 1 : 0);
      due("already, or not its YEAR", x.earn(0), -1);
      if (y == 1) {
        x.undo();
        due("taken back it can be", x.earn(0), 7);
      }
    }
    DeadCap last = Sentences.told("p19,1,0,0,0:100,0;", 18, 0);
    last.promise(0, 19, 7, true);
    due("not its YEAR, not begun", last.earn(0), -1);
    last.year();
    due("in YEAR 19", last.earn(0), 7);
    DeadCap x = Check.told("p0,1,0,0,0:100,0;p0,2,0,0,0:100,0:100,0;p1,1,0,0,0:100,0;");
    x.promise(0, 1, 7, true);
    x.promise(1, 0, 7, true);
    x.promise(2, 0, 7, true);
    x.cut(1);
    due("CUT", x.earn(1), -1);
    due("OPEN, though not begun", x.earn(2), 7);
    x.year();
    due("over", x.earn(0), -1);
  }

  private static void likelyCounts() {
    int[] counts = {101, 110, 200};
    for (int y = 0; y < 3; y++) {
      DeadCap x = Check.told("p0,3,0,0,0" + Sentences.pays(3) + ";");
      x.promise(0, 0, 1, true);
      x.promise(0, 1, 10, true);
      x.promise(0, 2, 100, true);
      x.promise(0, y, 5000, false);
      Sentences.years(x, y);
      due("COUNT of YEAR " + y, x.now(0), counts[y]);
      x.earn(3);
      due("EARNED, not LIKELY", x.now(0), counts[y]);
      x.earn(y);
      due("EARNED, LIKELY", x.now(0), counts[y]);
      x.cut(0);
      due("CUT", x.now(0), 0);
    }
    for (int day : new int[] {199, 200, 201}) {
      DeadCap x = Sentences.told("c1;p0,1,0,0,0:300,0;p0,1,0,0,0:200,0;", 0, day);
      x.promise(1, 0, 7, true);
      due("COUNT on DAY " + day, x.now(0), day < 200 ? 307 : 507);
      due("SAVED", x.would(1, 3), day < 200 ? 7 : 207);
      int room = x.now(1);
      due("FIT with them, kept", x.fit(room, 1), 0);
      due("one more: CUT", x.fit(room + 1, 1) > 0, true);
    }
  }

  private static void settled() {
    int[] limits = {1007, 1000, 993, 1000};
    for (int i = 0; i < 4; i++) {
      boolean likely = i < 2;
      boolean isEarned = i == 1 || i == 2;
      DeadCap x = Check.told("l0,100;l1,1000;l2,50;p0,3,0,0,0" + Sentences.pays(3) + ";");
      x.promise(0, 0, 7, likely);
      if (isEarned) {
        due("earn", x.earn(0), 7);
      }
      x.year();
      due("LIKELY " + likely + ", EARNED " + isEarned, x.limit(1), limits[i]);
      due("the LIMIT behind it", x.limit(2), 50);
      x.year();
      // ROOM of YEAR 1 comes, the PROMISE does not come again
      due("once", x.limit(2), 50 + limits[i] - 100);
    }
    DeadCap later = Check.told("l0,100;l1,1000;l2,50;p0,2,0,0,0:100,0:100,0;");
    later.promise(0, 1, 7, true);
    later.year();
    due("not its YEAR", later.limit(1), 1000);
    later.year();
    due("its YEAR: ROOM of 893, and 7", later.limit(2), 950);
  }

  private static DeadCap passed(String rules, int likely, int notLikely) {
    DeadCap x = Check.told(rules + "p0,2,0,0,0:100,0:100,0;");
    if (likely > 0) {
      x.promise(0, 0, likely, true);
    }
    if (notLikely > 0) {
      x.promise(0, 0, notLikely, false);
      x.earn(likely > 0 ? 1 : 0);
    }
    x.year();
    return x;
  }

  private static void settledTogether() {
    int[] off = {4, 5, 6};
    int[] low = {1, 0, 0};
    int[] more = {8, 9, 10};
    int[] high = {999998, 999999, 999999};
    for (int i = 0; i < 3; i++) {
      due("5 less " + off[i], passed("l0,0;l1,5;", 0, off[i]).limit(1), low[i]);
      due("999990 and " + more[i], passed("l0,0;l1,999990;", more[i], 0).limit(1), high[i]);
    }
    int[] goesOff = {9, 10, 11};
    int[] together = {999999, 999999, 999998};
    for (int i = 0; i < 3; i++) {
      due("999999 and 10 less " + goesOff[i], passed("l0,0;l1,999999;", 10, goesOff[i]).limit(1), together[i]);
      due("999999 and ROOM of 10 less " + goesOff[i], passed("l0,110;l1,999999;", 0, goesOff[i]).limit(1), together[i]);
    }
    int[] comes = {4, 5, 6};
    int[] least = {0, 0, 1};
    for (int i = 0; i < 3; i++) {
      due("5 less 10 and " + comes[i], passed("l0,0;l1,5;", comes[i], 10).limit(1), least[i]);
    }
    due("ROOM below 0 does not count for it", passed("l0,99;l1,7;", 3, 0).limit(1), 10);
    DeadCap over = Check.told("l0,0;l1,1000;p0,1,0,0,0:100,0;");
    over.promise(0, 0, 7, true);
    due("over by that", over.year(), 1);
    due("it was OPEN till then", over.limit(1), 1007);
    DeadCap cut = Check.told("l0,0;l1,1000;p0,1,0,0,0:100,0;");
    cut.promise(0, 0, 7, true);
    cut.cut(0);
    cut.year();
    due("CUT ahead of that", cut.limit(1), 1000);
  }

  // ---- DAYS and YEARS: promises 26, 27 ----

  private static void yearsGoBy() {
    Sentences.holds("DAYS go by (to 364).", EdgesOfActs::toDay364, 26);
    Sentences.holds("DAYS go by (1 on): DAY. NONE: refused (4).", EdgesOfActs::fromOneDay, 26);
    Sentences.holds("A YEAR goes by: DAY 0, YEAR one more (19 at most);", EdgesOfActs::toYear19, 27);
    Sentences.holds("A YEAR goes by: how many CONTRACTS are over by that. NONE: refused (7).", EdgesOfActs::manyOver, 27);
    Sentences.holds("ROOM, if it was above 0, comes to the LIMIT of the new one (999999 at most then); CONTRACTS are over.", EdgesOfActs::roomComes, 12, 27);
  }

  private static void toDay364() {
    for (int from : new int[] {0, 1, 100, 362, 363, 364}) {
      for (int n : new int[] {363 - from, 364 - from, 365 - from}) {
        DeadCap x = new DeadCap();
        if (from > 0) {
          x.days(from);
        }
        if (n < 1 || from + n > 364) {
          Sentences.refused("days(" + n + ") from " + from, x, a -> a.days(n), 4);
        } else {
          Sentences.done("days(" + n + ") from " + from, x, a -> a.days(n), from + n);
        }
        due("DAY", x.is(1), n < 1 || from + n > 364 ? from : from + n);
      }
    }
  }

  private static void fromOneDay() {
    for (int n : new int[] {MIN, MIN + 1, -2, -1, 0, 365, MAX - 1, MAX}) {
      DeadCap x = new DeadCap();
      Sentences.refused("days(" + n + ")", x, a -> a.days(n), 4);
      x.days(364);
      Sentences.refused("days(" + n + ")", x, a -> a.days(n), 4);
      due("DAY", x.is(1), 364);
    }
    for (int n : new int[] {1, 2, 363, 364}) {
      Sentences.done("days(" + n + ")", new DeadCap(), a -> a.days(n), n);
    }
  }

  private static void toYear19() {
    DeadCap x = new DeadCap();
    for (int y = 1; y <= 19; y++) {
      x.days(y == 2 ? 364 : 1);
      Sentences.done("year()", x, a -> a.year(), 0);
      due("YEAR", x.is(0), y);
      due("DAY", x.is(1), 0);
    }
    x.days(5);
    Check.text(x, "p19,1,0,0,0:100,0;");
    for (int i = 0; i < 2; i++) {
      Sentences.refused("year() in 19", x, a -> a.year(), 7);
      due("YEAR", x.is(0), 19);
      due("DAY", x.is(1), 5);
      due("OPEN", x.is(8), 1);
    }
  }

  private static void manyOver() {
    DeadCap none = Check.told("p0,2,0,0,0:100,0:100,0;");
    due("none", none.year(), 0);
    due("one", none.year(), 1);
    due("none again", none.year(), 0);
    DeadCap all = Sentences.crowd(40);
    due("40", all.year(), 40);
    DeadCap some = Sentences.crowd(40);
    some.cut(7);
    due("a CUT one is not over by that", some.year(), 39);
    due("CUT", some.is(9), 1);
    due("over", some.is(10), 39);
    due("not begun", Check.told("p1,1,0,0,0:100,0;").year(), 0);
  }

  private static void roomComes() {
    int[] room = {-1, 0, 1};
    int[] limit = {7, 7, 8};
    int[] most = {1, 2, 3};
    int[] high = {999998, 999999, 999999};
    for (int i = 0; i < 3; i++) {
      due("ROOM " + room[i], passed("l0," + (100 + room[i]) + ";l1,7;", 0, 0).limit(1), limit[i]);
      due("999997 and ROOM " + most[i], passed("l0," + (100 + most[i]) + ";l1,999997;", 0, 0).limit(1), high[i]);
    }
    DeadCap x = passed("l0,999999;l1,0;", 0, 0);
    due("LIMIT 0 and ROOM", x.limit(1), 999899);
    due("LIMIT of the old one stays", x.limit(0), 999999);
    due("the next one stays", x.limit(2), 100000);
    // ahead of SEASON DAY one alone counts in full
    int[] days = {199, 200, 201};
    int[] rooms = {50, 0, 0};
    for (int i = 0; i < 3; i++) {
      DeadCap y = Sentences.told("c1;l0,150;l1,7;p0,1,0,0,0:100,0;p0,1,0,0,0:100,0;", 0, days[i]);
      y.year();
      due("ROOM as it was on DAY " + days[i], y.limit(1), 7 + rooms[i]);
    }
  }

  // ---- CUT, TRADED: promises 18, 19 ----

  private static void cuts() {
    Sentences.holds("CUT: of an OPEN one whose FIRST YEAR is not behind YEAR.", EdgesOfActs::begun, 17, 18, 19);
    Sentences.holds("CUT: how many are OPEN then. NONE: refused.", EdgesOfActs::whoIsCut, 18);
    Sentences.holds("TRADED: how many are OPEN then. NONE: refused.", EdgesOfActs::whoIsTraded, 19);
    Sentences.holds("REASONS why an act is refused, the first that holds:", EdgesOfActs::firstReason, 10);
    Sentences.holds("1 there is no such CONTRACT, 2 it isn't OPEN, 3 it has not begun, 4 a number can't be, 5 BASE were below LEAST PAY, "
        + "6 YEARS too many, 7 the YEARS are at an end.", EdgesOfActs::eachReason, 10);
  }

  private static void begun() {
    int[] reasons = {3, 0, 0, 2};
    for (int y = 0; y < 4; y++) {
      DeadCap cut = Sentences.told("p1,2,0,0,0:100,0:100,0;", y, 0);
      DeadCap traded = Sentences.told("p1,2,0,0,0:100,0:100,0;", y, 0);
      due("would in YEAR " + y, cut.would(0, 2), reasons[y] == 0 ? 0 : Sentences.LOW);
      if (reasons[y] == 0) {
        Sentences.done("cut in YEAR " + y, cut, a -> a.cut(0), 0);
        Sentences.done("trade in YEAR " + y, traded, a -> a.trade(0), 0);
      } else {
        Sentences.refused("cut in YEAR " + y, cut, a -> a.cut(0), reasons[y]);
        Sentences.refused("trade in YEAR " + y, traded, a -> a.trade(0), reasons[y]);
      }
    }
    DeadCap last = Sentences.told("p19,1,0,0,0:100,0;", 18, 364);
    Sentences.refused("cut in YEAR 18", last, a -> a.cut(0), 3);
    last.year();
    Sentences.done("cut in YEAR 19", last, a -> a.cut(0), 0);
  }

  private static void whoIsCut() {
    for (int k : new int[] {MIN, -1, 3, 4, 40, MAX}) {
      Sentences.refused("cut(" + k + ")", Sentences.crowd(3), a -> a.cut(k), 1);
    }
    DeadCap x = Sentences.crowd(3);
    Sentences.done("cut(0)", x, a -> a.cut(0), 2);
    Sentences.refused("cut(0)", x, a -> a.cut(0), 2);
    Sentences.done("cut(2)", x, a -> a.cut(2), 1);
    Sentences.done("cut(1)", x, a -> a.cut(1), 0);
    Sentences.refused("cut(1)", x, a -> a.cut(1), 2);
    Sentences.refused("of none", new DeadCap(), a -> a.cut(0), 1);
    DeadCap full = Sentences.crowd(40);
    Sentences.done("cut(39)", full, a -> a.cut(39), 39);
    Sentences.refused("cut(40)", full, a -> a.cut(40), 1);
  }

  private static void whoIsTraded() {
    for (int k : new int[] {MIN, -1, 3, 4, 40, MAX}) {
      Sentences.refused("trade(" + k + ")", Sentences.crowd(3), a -> a.trade(k), 1);
    }
    DeadCap x = Sentences.crowd(3);
    Sentences.done("trade(0)", x, a -> a.trade(0), 2);
    Sentences.done("trade(2)", x, a -> a.trade(2), 1);
    Sentences.done("trade(1)", x, a -> a.trade(1), 0);
    Sentences.refused("trade(1)", x, a -> a.trade(1), 2);
    Sentences.refused("of none", new DeadCap(), a -> a.trade(0), 1);
    Sentences.refused("over", Sentences.told("p0,1,0,0,0:100,0;", 1, 0), a -> a.trade(0), 2);
  }

  private static void firstReason() {
    DeadCap x = Check.told("p0,6,4,0,0" + Sentences.pays(6) + ";p1,6,4,0,0" + Sentences.pays(6) + ";p0,6,4,0,0" + Sentences.pays(6) + ";");
    x.cut(2);
    int[] who = {9, 2, 1};
    for (int i = 0; i < 3; i++) {
      int k = who[i];
      Sentences.refused("turn, " + (i + 1) + " ahead of 4", x, a -> a.turn(k, 0), i + 1);
      Sentences.refused("turn, " + (i + 1) + " ahead of 5", x, a -> a.turn(k, 99999), i + 1);
      Sentences.refused("lower, " + (i + 1) + " ahead of 4", x, a -> a.lower(k, 100000), i + 1);
      Sentences.refused("lower, " + (i + 1) + " ahead of 5", x, a -> a.lower(k, 99999), i + 1);
      Sentences.refused("longer, " + (i + 1) + " ahead of 4", x, a -> a.longer(k, 0, 100, 0), i + 1);
      Sentences.refused("longer, " + (i + 1) + " ahead of 5", x, a -> a.longer(k, 1, 99, 0), i + 1);
      Sentences.refused("longer, " + (i + 1) + " ahead of 6", x, a -> a.longer(k, 1, 100, 0), i + 1);
    }
    Sentences.refused("turn, 4 ahead of 5", x, a -> a.turn(0, 100000), 4);
    Sentences.refused("turn, 5", x, a -> a.turn(0, 99999), 5);
    Sentences.refused("lower, 4 ahead of 5", x, a -> a.lower(0, 100000), 4);
    Sentences.refused("longer, 4 ahead of 5 and 6: n", x, a -> a.longer(0, 6, 99, 0), 4);
    Sentences.refused("longer, 4 ahead of 5 and 6: BASE", x, a -> a.longer(0, 1, -1, 0), 4);
    Sentences.refused("longer, 4 ahead of 5 and 6: BONUS", x, a -> a.longer(0, 1, 99, 100000), 4);
    Sentences.refused("longer, 5 ahead of 6", x, a -> a.longer(0, 1, 99, 0), 5);
    Sentences.refused("longer, 6", x, a -> a.longer(0, 1, 100, 0), 6);
  }

  /** Each REASON at its edge, and the act on the other side of it, which is done. */
  private static void eachReason() {
    DeadCap x = Check.told("p0,6,3,0,0" + Sentences.times(":102,0", 6) + ";p0,1,0,0,0:100,0;p1,1,0,0,0:100,0;");
    Sentences.refused("1", x, a -> a.trade(3), 1);
    Sentences.done("not 1", x, a -> a.trade(1), 2);
    Sentences.refused("2", x, a -> a.trade(1), 2);
    Sentences.refused("3", x, a -> a.trade(2), 3);
    Sentences.refused("4", x, a -> a.lower(0, 0), 4);
    Sentences.done("not 4", x, a -> a.lower(0, 1), 101);
    Sentences.refused("5", x, a -> a.lower(0, 2), 5);
    Sentences.done("not 5", x, a -> a.lower(0, 1), 100);
    Sentences.refused("6", x, a -> a.longer(0, 2, 100, 0), 6);
    Sentences.done("not 6", x, a -> a.longer(0, 1, 100, 0), 9);
    Sentences.done("year", x, a -> a.year(), 0);
    Sentences.done("not 3", x, a -> a.trade(2), 1);
    Sentences.years(x, 17);
    Sentences.done("not 7", x, a -> a.year(), 0);
    Sentences.refused("7", x, a -> a.year(), 7);
  }

  // ---- TURN, LOWER, SPREAD: promises 15, 23, 25 ----

  private static void pay() {
    Sentences.holds("TURN of x (1 to 99999): HIT of YEAR then. NONE: refused.", EdgesOfActs::howMuchTurned, 23);
    Sentences.holds("TURN: x of BASE of YEAR (which stays LEAST PAY at least) becomes a BONUS, SPREAD from YEAR on.", EdgesOfActs::turnToLeastPay, 23);
    Sentences.holds("BONUSES are SPREAD over as many YEARS as there are from theirs to the last one (VOID ones, too), 5 at most: as many like PARTS, "
        + "what is left over is in the first one.", EdgesOfActs::spread, 15, 23);
    Sentences.holds("LOWER by x (1 to 99999): HIT of YEAR then. NONE: refused.", EdgesOfActs::howMuchLower, 25);
    Sentences.holds("LOWER: BASE of YEAR becomes x less (no BONUS; REASONS 1 to 5).", EdgesOfActs::lowerToLeastPay, 25);
  }

  private static void howMuchTurned() {
    String most = "m0;p0,2,0,0,0:99999,0:100,0;";
    for (int x : new int[] {MIN, -1, 0, 100000, 100001, MAX}) {
      Sentences.refused("turn(0, " + x + ")", Check.told(most), a -> a.turn(0, x), 4);
    }
    int[] xs = {1, 2, 3, 99998, 99999};
    int[] hits = {99999, 99998, 99998, 50000, 50000};
    for (int i = 0; i < xs.length; i++) {
      int x = xs[i];
      DeadCap cap = Check.told(most);
      Sentences.done("turn(0, " + x + ")", cap, a -> a.turn(0, x), hits[i]);
      due("BASE", cap.pay(0, 0, 0), 99999 - x);
      due("PARTS", cap.pay(0, 0, 2) + cap.pay(0, 1, 2), x);
      due("contract(0, 6)", cap.contract(0, 6), hits[i]);
    }
    for (int k : new int[] {MIN, -1, 1, MAX}) {
      Sentences.refused("turn(" + k + ", 1)", Check.told(most), a -> a.turn(k, 1), 1);
    }
    Sentences.refused("not begun", Check.told("p1,1,0,0,0:500,0;"), a -> a.turn(0, 1), 3);
    Sentences.refused("over", Sentences.told("p0,1,0,0,0:500,0;", 1, 0), a -> a.turn(0, 1), 2);
  }

  private static void turnToLeastPay() {
    for (int least : new int[] {0, 1, 100, 9999}) {
      for (int above : new int[] {0, 1, 2, 400}) {
        String s = "m" + least + ";p0,1,0,0,0:" + (least + above) + ",0;";
        for (int x : new int[] {above - 1, above, above + 1}) {
          DeadCap cap = Check.told(s);
          if (x < 1) {
            Sentences.refused("turn of " + x, cap, a -> a.turn(0, x), 4);
          } else if (x > above) {
            Sentences.refused("turn of " + x + " of " + above, cap, a -> a.turn(0, x), 5);
          } else {
            Sentences.done("turn of " + x + " of " + above, cap, a -> a.turn(0, x), least + above);
          }
          due("BASE", cap.pay(0, 0, 0), x < 1 || x > above ? least + above : least + above - x);
        }
      }
    }
    DeadCap raised = Check.told("p0,2,0,0,0:500,0:500,0;m500;");
    Sentences.refused("BASE is LEAST PAY", raised, a -> a.turn(0, 1), 5);
    Check.text(raised, "m499;");
    Sentences.done("one above it", raised, a -> a.turn(0, 1), 500);
    Check.text(raised, "m600;");
    Sentences.refused("BASE is below it already", raised, a -> a.turn(0, 1), 5);
  }

  private static void spread() {
    // a BONUS of 99 over 1 to 6 YEARS, VOID ones too: never over more than five
    int[] first = {0, 99, 50, 33, 27, 23, 23};
    int[] other = {0, 0, 49, 33, 24, 19, 19};
    for (int all = 1; all <= 6; all++) {
      for (int years = Math.max(1, all - 4); years <= all; years++) {
        dueParts(Check.told("p0," + years + "," + (all - years) + ",99,0" + Sentences.pays(years) + ";"), 0, all, first[all], other[all]);
      }
    }
    int[] longest = {10, 9, 8, 7};
    for (int all : longest) {
      dueParts(Check.told("p0,6," + (all - 6) + ",99,0" + Sentences.pays(6) + ";"), 0, all, 23, 19);
    }
    // from YEAR on: in YEAR 5 of six there are 1 to 5 left
    for (int v = 0; v <= 4; v++) {
      DeadCap x = Sentences.told("p0,6," + v + ",0,0" + Sentences.times(":199,0", 6) + ";", 5, 0);
      Sentences.done("turn", x, a -> a.turn(0, 99), 100 + first[v + 1]);
      dueParts(x, 5, v + 1, first[v + 1], other[v + 1]);
    }
    DeadCap six = Sentences.told("p0,6,4,0,0" + Sentences.times(":199,0", 6) + ";", 4, 0);
    Sentences.done("turn", six, a -> a.turn(0, 99), 123);
    dueParts(six, 4, 6, 23, 19);
    int[] bonus = {0, 1, 4, 5, 6, 9, 10, 11};
    int[] head = {0, 1, 4, 1, 2, 5, 2, 3};
    int[] tail = {0, 0, 0, 1, 1, 1, 2, 2};
    for (int i = 0; i < bonus.length; i++) {
      dueParts(Check.told("p0,5,0," + bonus[i] + ",0" + Sentences.pays(5) + ";"), 0, 5, head[i], tail[i]);
    }
  }

  /** PARTS from a YEAR on over so many YEARS, five at most; none ahead of them and none behind. */
  private static void dueParts(DeadCap x, int from, int over, int first, int other) {
    for (int y = 0; y < 20; y++) {
      int i = y - from;
      int want = i < 0 || i >= Math.min(5, over) ? 0 : i == 0 ? first : other;
      due("PARTS of YEAR " + y + " from " + from + " over " + over, x.pay(0, y, 2), want);
    }
  }

  private static void howMuchLower() {
    String most = "m0;p0,2,0,0,0:99999,0:100,0;";
    for (int x : new int[] {MIN, -1, 0, 100000, 100001, MAX}) {
      Sentences.refused("lower(0, " + x + ")", Check.told(most), a -> a.lower(0, x), 4);
    }
    for (int x : new int[] {1, 2, 99998, 99999}) {
      DeadCap cap = Check.told(most);
      Sentences.done("lower(0, " + x + ")", cap, a -> a.lower(0, x), 99999 - x);
      due("no BONUS", cap.coins(0, 0), 0);
    }
    for (int k : new int[] {MIN, -1, 1, MAX}) {
      Sentences.refused("lower(" + k + ", 1)", Check.told(most), a -> a.lower(k, 1), 1);
    }
    Sentences.refused("not begun", Check.told("p1,1,0,0,0:500,0;"), a -> a.lower(0, 1), 3);
    Sentences.refused("over", Sentences.told("p0,1,0,0,0:500,0;", 1, 0), a -> a.lower(0, 1), 2);
  }

  private static void lowerToLeastPay() {
    for (int least : new int[] {0, 1, 100, 9999}) {
      for (int above : new int[] {0, 1, 2, 400}) {
        String s = "m" + least + ";p0,1,0,0,0:" + (least + above) + ",0;";
        for (int x : new int[] {above - 1, above, above + 1}) {
          DeadCap cap = Check.told(s);
          if (x < 1) {
            Sentences.refused("lower by " + x, cap, a -> a.lower(0, x), 4);
          } else if (x > above) {
            Sentences.refused("lower by " + x + " of " + above, cap, a -> a.lower(0, x), 5);
          } else {
            Sentences.done("lower by " + x + " of " + above, cap, a -> a.lower(0, x), least + above - x);
          }
        }
      }
    }
    DeadCap second = Sentences.told("p0,3,0,0,0:500,0:600,0:700,0;", 1, 0);
    Sentences.done("of YEAR", second, a -> a.lower(0, 500), 100);
    due("the YEAR ahead", second.pay(0, 0, 0), 500);
    due("the YEAR behind", second.pay(0, 2, 0), 700);
  }

  // ---- LONGER: promise 24 ----

  private static void longerOnes() {
    Sentences.holds("LONGER by n YEARS (1 to 5), BASE, BONUS (0 to 99999 each): its last YEAR (VOID ones, too). NONE: refused.", EdgesOfActs::numbersOfLonger, 24);
    Sentences.holds("gets n YEARS more (to 10 YEARS and VOID ones in all; VOID ones, too, by 19)", EdgesOfActs::tenInAll, 24);
    Sentences.holds("LONGER: an OPEN one that has YEAR among its YEARS", EdgesOfActs::amongItsYears, 24);
    Sentences.holds("with a BASE each (no ROSTER BONUS), a BONUS SPREAD from YEAR on; VOID ones come behind them (PARTS that are SPREAD already stay).",
        EdgesOfActs::voidOnesBehind, 15, 24);
  }

  private static void numbersOfLonger() {
    for (int n : new int[] {MIN, -1, 0, 6, 7, MAX}) {
      Sentences.refused("n " + n, Sentences.crowd(1), a -> a.longer(0, n, 100, 0), 4);
    }
    for (int n = 1; n <= 5; n++) {
      int more = n;
      DeadCap x = Check.told("p0,1,2,0,0:100,0;");
      Sentences.done("n " + n, x, a -> a.longer(0, more, 100, 0), 2 + n);
      due("YEARS", x.contract(0, 1), 1 + n);
      due("VOID", x.contract(0, 2), 2);
    }
    int[] base = {MIN, -1, 0, 1, 99, 100, 101, 99998, 99999, 100000, MAX};
    int[] reasons = {4, 4, 5, 5, 5, 0, 0, 0, 0, 4, 4};
    int[] reasonsFrom0 = {4, 4, 0, 0, 0, 0, 0, 0, 0, 4, 4};
    int[] bonusReasons = {4, 4, 0, 0, 0, 0, 0, 0, 0, 4, 4};
    for (int i = 0; i < base.length; i++) {
      int b = base[i];
      longer(Sentences.crowd(1), b, 0, reasons[i]);
      longer(Check.told("m0;p0,1,0,0,0:100,0;"), b, 0, reasonsFrom0[i]);
      longer(Sentences.crowd(1), 100, b, bonusReasons[i]);
    }
    longer(Check.told("p0,1,0,0,0:9999,0;m9999;"), 9998, 0, 5);
    longer(Check.told("p0,1,0,0,0:9999,0;m9999;"), 9999, 0, 0);
    for (int k : new int[] {MIN, -1, 1, MAX}) {
      Sentences.refused("longer(" + k + ")", Sentences.crowd(1), a -> a.longer(k, 1, 100, 0), 1);
    }
  }

  private static void longer(DeadCap x, int base, int bonus, int reason) {
    String act = "longer(0, 1, " + base + ", " + bonus + ")";
    if (reason != 0) {
      Sentences.refused(act, x, a -> a.longer(0, 1, base, bonus), reason);
      due("YEARS stay", x.contract(0, 1), 1);
      return;
    }
    Sentences.done(act, x, a -> a.longer(0, 1, base, bonus), 1);
    due("BASE", x.pay(0, 1, 0), base);
    due("BONUS", x.coins(0, 0), bonus);
  }

  private static void tenInAll() {
    for (int years = 1; years <= 6; years++) {
      for (int voids = 0; voids <= 4; voids++) {
        for (int n = 1; n <= 5; n++) {
          int more = n;
          int all = years + voids + n;
          DeadCap x = Check.told("p0," + years + "," + voids + ",0,0" + Sentences.pays(years) + ";");
          if (all > 10) {
            Sentences.refused(all + " in all", x, a -> a.longer(0, more, 100, 0), 6);
          } else {
            Sentences.done(all + " in all", x, a -> a.longer(0, more, 100, 0), all - 1);
          }
        }
      }
    }
    DeadCap twice = Sentences.crowd(1);
    Sentences.done("6", twice, a -> a.longer(0, 5, 100, 0), 5);
    Sentences.done("9", twice, a -> a.longer(0, 3, 100, 0), 8);
    Sentences.refused("11", twice, a -> a.longer(0, 2, 100, 0), 6);
    Sentences.done("10", twice, a -> a.longer(0, 1, 100, 500), 9);
    Sentences.refused("11", twice, a -> a.longer(0, 1, 100, 0), 6);
    due("its last BASE", twice.pay(0, 9, 0), 100);
    Sentences.years(twice, 9);
    due("it is OPEN to its last YEAR", twice.contract(0, 5), 1);
    due("then it is over", twice.year(), 1);
    int[] left = {0, 99, 50, 33, 27, 23, 23};
    for (int y = 4; y <= 9; y++) {
      DeadCap ten = Sentences.crowd(1);
      ten.longer(0, 5, 199, 0);
      ten.longer(0, 4, 199, 0);
      Sentences.years(ten, y);
      Sentences.done("turn in YEAR " + y + " of ten", ten, a -> a.turn(0, 99), 100 + left[10 - y]);
      due("all of it", ten.coins(0, 0), 99);
      due("the last YEAR", ten.pay(0, 9, 2), y == 4 ? 0 : y == 9 ? 99 : 99 / (10 - y));
    }
    for (int voids = 0; voids <= 2; voids++) {
      for (int n = 1; n <= 4; n++) {
        int more = n;
        int last = 16 + voids + n;
        DeadCap x = Sentences.told("p15,2," + voids + ",0,0:100,0:100,0;", 15, 0);
        if (last > 19) {
          Sentences.refused("to " + last, x, a -> a.longer(0, more, 100, 0), 6);
        } else {
          Sentences.done("to " + last, x, a -> a.longer(0, more, 100, 0), last);
        }
      }
    }
    Sentences.refused("YEAR 19", Sentences.told("p19,1,0,0,0:100,0;", 19, 0), a -> a.longer(0, 1, 100, 0), 6);
  }

  private static void amongItsYears() {
    int[] reasons = {3, 0, 0, 2, 2};
    for (int y = 0; y < reasons.length; y++) {
      DeadCap x = Sentences.told("p1,2,1,0,0:100,0:100,0;", y, 0);
      if (reasons[y] == 0) {
        Sentences.done("in YEAR " + y, x, a -> a.longer(0, 1, 100, 0), 4);
      } else {
        Sentences.refused("in YEAR " + y, x, a -> a.longer(0, 1, 100, 0), reasons[y]);
      }
    }
    DeadCap cut = Sentences.crowd(1);
    cut.cut(0);
    Sentences.refused("CUT", cut, a -> a.longer(0, 1, 100, 0), 2);
  }

  private static void voidOnesBehind() {
    DeadCap x = Check.told("p0,1,1,100,0:300,70;");
    Sentences.done("longer", x, a -> a.longer(0, 2, 200, 403), 3);
    int[] parts = {50 + 103, 50 + 100, 100, 100, 0};
    int[] base = {300, 200, 200, 0, 0};
    int[] roster = {70, 0, 0, 0, 0};
    for (int y = 0; y < 5; y++) {
      due("PARTS of " + y, x.pay(0, y, 2), parts[y]);
      due("BASE of " + y, x.pay(0, y, 0), base[y]);
      due("ROSTER BONUS of " + y, x.pay(0, y, 1), roster[y]);
    }
    // over 4, 5, 6 YEARS: five at most
    int[] voids = {0, 1, 2};
    int[] first = {102, 82, 82};
    for (int i = 0; i < 3; i++) {
      DeadCap y = Check.told("p0,1," + voids[i] + ",0,0:100,0;");
      y.longer(0, 3, 100, 402);
      dueParts(y, 0, 4 + voids[i], first[i], i == 0 ? 100 : 80);
    }
    DeadCap later = Sentences.told("p0,2,0,100,0:100,0:100,0;", 1, 0);
    Sentences.done("from YEAR on", later, a -> a.longer(0, 1, 100, 31), 2);
    due("the YEAR ahead", later.pay(0, 0, 2), 50);
    due("YEAR", later.pay(0, 1, 2), 50 + 16);
    due("the next", later.pay(0, 2, 2), 15);
  }

  // ---- SIGNED: promise 20 ----

  private static void market() {
    Sentences.holds("(REASONS: 1, there is no such OFFER; 6, YEARS above 19, or 40 CONTRACTS)", EdgesOfActs::signRefused, 20);
    Sentences.holds("SIGNED: the CONTRACT's number. NONE: refused.", EdgesOfActs::signedNumbers, 20);
    Sentences.holds("SIGNED an OFFER becomes a CONTRACT from YEAR on (BASE each YEAR, no VOID ones, nothing SURE, no ROSTER BONUS) and is in THE MARKET no more",
        EdgesOfActs::signed, 20, 47);
  }

  private static void signRefused() {
    for (int i : new int[] {MIN, -1, 0, 1, 2, 3, 11, 12, MAX}) {
      DeadCap x = new DeadCap();
      Check.market(x, "1,1,0,101;2,1,0,102;3,1,0,103;");
      if (i < 0 || i > 2) {
        Sentences.refused("sign(" + i + ")", x, a -> a.sign(i), 1);
      } else {
        Sentences.done("sign(" + i + ")", x, a -> a.sign(i), 0);
        due("its BASE", x.pay(0, 0, 0), 101 + i);
      }
    }
    Sentences.refused("of none", new DeadCap(), a -> a.sign(0), 1);
    for (int years = 1; years <= 6; years++) {
      for (int y = Math.max(0, 19 - years); y <= Math.min(19, 21 - years); y++) {
        DeadCap x = Sentences.inYear(y);
        Check.market(x, "1," + years + ",0,100;");
        if (y + years - 1 > 19) {
          Sentences.refused(years + " YEARS in " + y, x, a -> a.sign(0), 6);
          due("it stays", x.offer(0, 0), 1);
        } else {
          Sentences.done(years + " YEARS in " + y, x, a -> a.sign(0), 0);
        }
      }
    }
    DeadCap full = Sentences.crowd(38);
    Check.market(full, Sentences.times("1,1,0,100;", 3));
    Sentences.done("the 39th", full, a -> a.sign(0), 38);
    Sentences.done("the 40th", full, a -> a.sign(0), 39);
    Sentences.refused("the 41st", full, a -> a.sign(0), 6);
    Sentences.refused("no such OFFER comes first", full, a -> a.sign(1), 1);
    full.cut(0);
    Sentences.refused("numbers are for good", full, a -> a.sign(0), 6);
    Check.faultAt("41st p", full, Check.text(full, "p0,1,0,0,0:100,0;"), 0);
  }

  private static void signedNumbers() {
    for (int before : new int[] {0, 1, 2, 38, 39, 40}) {
      DeadCap x = Sentences.crowd(before);
      Check.market(x, "1,1,0,777;");
      if (before == 40) {
        Sentences.refused("sign", x, a -> a.sign(0), 6);
      } else {
        Sentences.done("sign behind " + before, x, a -> a.sign(0), before);
        due("its BASE", x.pay(before, 0, 0), 777);
      }
      due("CONTRACTS", x.is(7), Math.min(40, before + 1));
      due("the OFFER stays, if it is refused", x.offer(0, 3), before == 40 ? 777 : -1);
    }
  }

  private static void signed() {
    for (int i = 0; i < 12; i++) {
      DeadCap x = new DeadCap();
      StringBuilder s = new StringBuilder();
      for (int j = 0; j < 12; j++) {
        s.append(j + 1).append(",2,").append(j).append(',').append(100 + j).append(';');
      }
      due("12 OFFERS", Check.market(x, s.toString()), 12);
      due("sign(" + i + ")", x.sign(i), 0);
      due("WORTH of the one ahead", x.offer(i - 1, 0), i == 0 ? -1 : i);
      due("WORTH of the one behind", x.offer(i, 0), i == 11 ? -1 : i + 2);
      due("there are 11", x.offer(11, 0), -1);
      due("the 11th", x.offer(10, 0), i == 11 ? 11 : 12);
      int[] of = {0, 2, 0, 0, 0, 2, 100 + i + i / 2 + i % 2};
      for (int what = 0; what < of.length; what++) {
        due("contract(0, " + what + ")", x.contract(0, what), of[what]);
      }
      due("BASE each YEAR", x.pay(0, 1, 0), 100 + i);
      due("no ROSTER BONUS", x.pay(0, 0, 1) + x.pay(0, 1, 1), 0);
      due("not behind", x.pay(0, 2, 3), 0);
    }
    DeadCap later = Sentences.inYear(14);
    Check.market(later, "5,6,99999,99999;");
    due("from YEAR on", later.sign(0), 0);
    due("FIRST YEAR", later.contract(0, 0), 14);
    due("BASE of 19", later.pay(0, 19, 0), 99999);
    due("nothing SURE", later.would(0, 0), 99999);
    due("THE MARKET is empty", later.offer(0, 0), -1);
  }

  // ---- BY POLICY: promise 29 ----

  private static void byPolicy() {
    Sentences.holds("BY POLICY till ROOM is a goal (-999999 to 999999): how many were CUT. NONE: there is no POLICY, others.", EdgesOfActs::goals, 29);
    Sentences.holds("BY POLICY: while ROOM is below a goal, of OPEN ones that have begun, with SAVED above 0, that one is CUT whose SUM is greatest "
        + "(of like ones the first).", EdgesOfActs::savedAbove0, 29);
  }

  private static DeadCap crowdWith(int n, String policy) {
    DeadCap x = Sentences.crowd(n);
    due("policy", Check.policy(x, policy) > 0, true);
    return x;
  }

  private static void goals() {
    IntFunction<Long> ask = goal -> (long) crowdWith(1, "h").byPolicy(goal);
    Sentences.argument("byPolicy(?)", ask, -999999, 999999, -1, goal -> goal > 99900 ? 1L : 0L);
    due("no POLICY", Sentences.crowd(1).byPolicy(0), -1);
    int[] goals = {99699, 99700, 99701, 99799, 99800, 99801, 99900, 99901, 100000, 100001};
    int[] many = {0, 0, 1, 1, 1, 2, 2, 3, 3, 3};
    for (int i = 0; i < goals.length; i++) {
      DeadCap x = crowdWith(3, "h");
      due("ROOM", x.now(1), 99700);
      due("byPolicy(" + goals[i] + ")", x.byPolicy(goals[i]), many[i]);
      due("OPEN", x.is(8), 3 - many[i]);
      due("DEEDS", x.is(11), many[i] == 0 ? 2 : 3);
    }
    due("of no CONTRACTS", policyAlone().byPolicy(999999), 0);
    DeadCap forty = crowdWith(40, "n");
    Check.text(forty, "c40;");
    due("40", forty.byPolicy(100000), 40);
    DeadCap below = Check.told("l0,0;" + Sentences.times("p0,1,0,0,0:99999,0;", 11));
    Check.policy(below, "n");
    due("ROOM", below.now(1), -1099989);
    due("-999989: the last but one", below.byPolicy(-999989), 2);
    due("-799992", below.byPolicy(-799992), 1);
    due("as much as there is", below.byPolicy(-799992), 0);
  }

  private static DeadCap policyAlone() {
    DeadCap x = new DeadCap();
    Check.policy(x, "1");
    return x;
  }

  private static void savedAbove0() {
    int[] bonus = {198, 200, 202};
    int[] saved = {1, 0, -1};
    for (int i = 0; i < 3; i++) {
      DeadCap x = Check.told("p0,2,0," + bonus[i] + ",0:100,0:100,0;");
      Check.policy(x, "s");
      due("SAVED", x.says(0), saved[i]);
      due("byPolicy", x.byPolicy(999999), saved[i] > 0 ? 1 : 0);
      due("OPEN", x.is(8), saved[i] > 0 ? 0 : 1);
    }
    DeadCap later = Check.told("p1,1,0,0,0:100,0;");
    Check.policy(later, "9");
    due("not begun", later.byPolicy(999999), 0);
    later.year();
    due("begun", later.byPolicy(999999), 1);
    int[] second = {299, 300, 301};
    for (int i = 0; i < 3; i++) {
      DeadCap x = Check.told("p0,1,0,0,0:300,0;p0,1,0,0,0:" + second[i] + ",0;");
      Check.policy(x, "h");
      due("byPolicy", x.byPolicy(x.now(1) + 1), 1);
      due("the first is CUT", x.contract(0, 4), i < 2 ? 1 : 0);
      due("the second is CUT", x.contract(1, 4), i < 2 ? 0 : 1);
    }
    DeadCap low = crowdWith(3, "0-999999*999999");
    due("a SUM far below 0", low.byPolicy(99701), 1);
    due("the first", low.contract(0, 4), 1);
    DeadCap zero = crowdWith(3, "0");
    due("a SUM of 0", zero.byPolicy(99701), 1);
    due("the first", zero.contract(0, 4), 1);
    DeadCap number = crowdWith(3, "n");
    due("the greatest number", number.byPolicy(99701), 1);
    due("the last", number.contract(2, 4), 1);
  }

  // ---- DEEDS: promises 52 to 54 ----

  private static void takenBack() {
    Sentences.holds("each that was done; the latest 8 can be taken back.", EdgesOfActs::eightDeeds, 11, 52);
    Sentences.holds("The latest DEED is taken back: how many still can be. NONE: none.", EdgesOfActs::noneLeft, 52);
    Sentences.holds("DEEDS: text(), policy(), market(), cut(), trade(), turn(), lower(), longer(), sign(), promise(), earn(), days(), year(), "
        + "byPolicy() (that CUT some), restore(), acts() (each ACT)", EdgesOfActs::deedsAndOthers, 11, 52);
    Sentences.holds("All is KEPT as k (0, 1): true; false for others.", EdgesOfActs::keptPlaces, 53);
    Sentences.holds("All is as KEPT as k: true (a DEED); false for others, nothing is KEPT there.", EdgesOfActs::restored, 54);
  }

  private static void eightDeeds() {
    for (int n : new int[] {0, 1, 2, 7, 8, 9, 10, 15, 16, 17, 100}) {
      DeadCap x = new DeadCap();
      for (int i = 0; i < n; i++) {
        x.days(1);
        due("DEEDS", x.is(11), Math.min(8, i + 1));
      }
      int can = Math.min(8, n);
      for (int i = can - 1; i >= 0; i--) {
        due("undo", x.undo(), i);
        due("DEEDS", x.is(11), i);
        due("DAY", x.is(1), n - can + i);
      }
      due("none", x.undo(), -1);
      due("DAY", x.is(1), n - can);
    }
    DeadCap mixed = new DeadCap();
    for (int i = 0; i < 9; i++) {
      mixed.days(1);
    }
    due("undo", mixed.undo(), 7);
    due("a new one in its place", mixed.days(100), 108);
    due("DEEDS", mixed.is(11), 8);
    for (int i = 7; i >= 0; i--) {
      due("undo", mixed.undo(), i);
      due("DAY", mixed.is(1), i + 1);
    }
    due("none", mixed.undo(), -1);
    DeadCap acts = new DeadCap();
    Check.acts(acts, Sentences.times("d1;", 20));
    due("each ACT", acts.is(11), 8);
    for (int i = 7; i >= 0; i--) {
      due("undo", acts.undo(), i);
    }
    due("the latest 8 alone", acts.is(1), 12);
  }

  private static void noneLeft() {
    DeadCap x = new DeadCap();
    for (int i = 0; i < 3; i++) {
      due("none", x.undo(), -1);
      due("DEEDS", x.is(11), 0);
    }
    x.days(3);
    due("the only one", x.undo(), 0);
    due("DAY", x.is(1), 0);
    due("none", x.undo(), -1);
    due("an undo is no DEED", x.is(11), 0);
    Sentences.refused("days(0)", x, a -> a.days(0), 4);
    due("a refused one is none", x.undo(), -1);
  }

  private static void deedsAndOthers() {
    DeadCap x = Check.told("p0,3,0,1000,0:900,0:900,70:900,0;p0,1,1,100,0:900,0;p0,1,1,100,0:900,0;");
    due("text", x.is(11), 1);
    Check.policy(x, "h");
    due("policy", x.is(11), 2);
    Check.market(x, "1,1,0,100;");
    due("market", x.is(11), 3);
    x.keep(0);
    int[] others = {x.end(0), x.fault(), x.why(), x.now(0), x.set(0, 0), x.fit(0, 0), x.buys(0), x.write(), x.allTurned(), x.ranked(0)};
    due("others are none: " + others.length, x.is(11), 3);
    for (int i = 0; i < 13; i++) {
      due("DEED " + i, deed(x, i), true);
      due("can be taken back", x.is(11), 4);
      due("undo", x.undo(), 3);
      due("DEED " + i + " that is not done", deedRefused(x, i), false);
      due("is none", x.is(11), 3);
    }
    x.promise(0, 0, 5, true);
    due("earn", x.earn(0), 5);
    due("is a DEED", x.is(11), 5);
    due("again", x.earn(0), -1);
    due("is none", x.is(11), 5);
    due("undo", x.undo(), 4);
    due("not EARNED", x.promised(0, 4), 0);
  }

  private static boolean deed(DeadCap x, int i) {
    switch (i) {
      case 0:
        return x.cut(0) >= 0;
      case 1:
        return x.trade(0) >= 0;
      case 2:
        return x.turn(0, 100) >= 0;
      case 3:
        return x.lower(0, 100) >= 0;
      case 4:
        return x.longer(0, 1, 100, 100) >= 0;
      case 5:
        return x.sign(0) >= 0;
      case 6:
        return x.promise(0, 0, 5, true) >= 0;
      case 7:
        return x.days(9) >= 0;
      case 8:
        return x.year() >= 0;
      case 9:
        return x.byPolicy(x.now(1) + 1) == 1;
      case 10:
        return x.restore(0);
      case 11:
        return Check.acts(x, "d1;") == 1;
      default:
        return Check.text(x, "c7;") == 1;
    }
  }

  private static boolean deedRefused(DeadCap x, int i) {
    switch (i) {
      case 0:
        return x.cut(9) >= 0;
      case 1:
        return x.trade(9) >= 0;
      case 2:
        return x.turn(0, 0) >= 0;
      case 3:
        return x.lower(0, 0) >= 0;
      case 4:
        return x.longer(0, 0, 100, 100) >= 0;
      case 5:
        return x.sign(1) >= 0;
      case 6:
        return x.promise(0, 0, 0, true) >= 0;
      case 7:
        return x.days(0) >= 0;
      case 8:
        return x.earn(0) >= 0;
      case 9:
        return x.byPolicy(x.now(1)) != 0;
      case 10:
        return x.restore(1);
      case 11:
        return Check.acts(x, "d0;") == 1;
      default:
        return Check.text(x, "c0;") == 1;
    }
  }

  private static void keptPlaces() {
    for (int k : new int[] {MIN, -1, 0, 1, 2, MAX}) {
      DeadCap x = new DeadCap();
      x.days(5);
      boolean well = k == 0 || k == 1;
      due("keep(" + k + ")", x.keep(k), well);
      due("no DEED", x.is(11), 1);
      x.days(5);
      due("restore(0)", x.restore(0), k == 0);
      due("DAY", x.is(1), k == 0 ? 5 : 10);
      due("restore(1)", x.restore(1), k == 1);
      due("DAY", x.is(1), well ? 5 : 10);
    }
    DeadCap both = new DeadCap();
    due("keep(0)", both.keep(0), true);
    both.days(7);
    due("keep(1)", both.keep(1), true);
    both.days(7);
    due("restore(0)", both.restore(0), true);
    due("DAY", both.is(1), 0);
    due("restore(1)", both.restore(1), true);
    due("DAY", both.is(1), 7);
    due("keep(0) again", both.keep(0), true);
    both.days(9);
    due("restore(0)", both.restore(0), true);
    due("in place of the one there was", both.is(1), 7);
  }

  private static void restored() {
    for (int k : new int[] {MIN, -1, 0, 1, 2, MAX}) {
      DeadCap x = new DeadCap();
      due("nothing is KEPT", x.restore(k), false);
      due("no DEED", x.is(11), 0);
      x.keep(0);
      x.keep(1);
      x.days(5);
      boolean well = k == 0 || k == 1;
      due("restore(" + k + ")", x.restore(k), well);
      due("a DEED", x.is(11), well ? 2 : 1);
      due("DAY", x.is(1), well ? 0 : 5);
      due("undo", x.undo(), well ? 1 : 0);
      due("DAY", x.is(1), well ? 5 : 0);
    }
    DeadCap ended = Sentences.told("p1,3,1,403,0:100,7:200,8:300,9;", 2, 150);
    ended.cut(0);
    ended.keep(0);
    for (int i = 0; i < 4; i++) {
      due("counted", ended.coins(0, 1), 103);
      due("DEAD", ended.coins(0, 2), 300);
      due("CASH ahead of the YEAR in which it was CUT", ended.cash(0, 1), 510);
      due("CASH of that YEAR", ended.cash(0, 2), 0);
      due("dead(2)", ended.dead(2), 108);
      due("dead(3)", ended.dead(3), 200);
      if (i == 0) {
        Check.text(ended, "c7;");
      } else if (i == 1) {
        ended.undo();
        ended.days(1);
        ended.undo();
      } else {
        Check.text(ended, "p2,1,0,0,0:100,0;");
        due("restore(0)", ended.restore(0), true);
      }
    }
    DeadCap many = Sentences.crowd(40);
    many.keep(0);
    many.undo();
    many.undo();
    due("no CONTRACTS", many.is(7), 0);
    due("restore", many.restore(0), true);
    due("all 40", many.is(7), 40);
    due("the last", many.pay(39, 0, 0), 100);
    due("undo", many.undo(), 0);
    due("none again", many.is(7), 0);
  }
}
