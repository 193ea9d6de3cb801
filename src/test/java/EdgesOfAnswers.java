/** Sentences that name an edge of what is asked: of the books, whom to cut, what years to come are like. */
final class EdgesOfAnswers {
  private static final int MIN = Sentences.MIN;
  private static final int MAX = Sentences.MAX;
  private static final int LOW = Sentences.LOW;

  private EdgesOfAnswers() {
  }

  private static void due(String call, long got, long want) {
    Check.due(call, got, want);
  }

  static void run() {
    books();
    sets();
    turned();
    yearsToCome();
    oneContract();
    ranks();
    money();
    market();
  }

  // ---- promises 11 to 17, 28, 49 ----

  private static void books() {
    Sentences.holds("12 bytes of the tape. NONE for others.", EdgesOfAnswers::is, 11);
    Sentences.holds("LIMIT of a YEAR. NONE for others.", EdgesOfAnswers::limit, 12);
    Sentences.holds("What is DEAD in a YEAR (as it is told by now). NONE for others.", EdgesOfAnswers::dead, 13);
    Sentences.holds("7 1 if it counts in full now, else 0. NONE for others.", EdgesOfAnswers::contract, 14);
    Sentences.holds("5 YEARS left (of one that is OPEN and has begun: of its YEARS, this one, too; of others 0), 6 HIT of YEAR (not OPEN: 0)",
        EdgesOfAnswers::yearsLeft, 14);
    Sentences.holds("Of a CONTRACT in a YEAR: 0 BASE, 1 ROSTER BONUS (0 if that is none of its YEARS), 2 PARTS, 3 HIT as if OPEN. NONE for others.",
        EdgesOfAnswers::pay, 15);
    Sentences.holds("HIT of a CONTRACT in a YEAR: PARTS of its BONUSES for that YEAR, and (in its YEARS) BASE and ROSTER BONUS of that.",
        EdgesOfAnswers::hit, 14, 15);
    Sentences.holds("COUNT of YEAR (what 0), ROOM (1; may be below 0). -1000000000 for others.", EdgesOfAnswers::now, 16);
    Sentences.holds("SAVED (3; may be below 0). -1000000000: the CUT would be refused, others.", EdgesOfAnswers::would, 17);
    Sentences.holds("SUM of THE POLICY for a CONTRACT. -1000000000000: there is none, its CUT would be refused.", EdgesOfAnswers::says, 28);
    Sentences.holds("h HIT of YEAR, x what is DEAD in all by a CUT now, s SAVED: by how much COUNT of YEAR were less by it, "
        + "y YEARS left (this one, too), b BASE of YEAR, n number.", EdgesOfAnswers::letters, 28);
    Sentences.holds("2 amount, 3 1 if LIKELY, 4 1 if EARNED. NONE for others.", EdgesOfAnswers::promised, 49);
  }

  private static void is() {
    int[] want = {1, 7, 11, 12, 13, 9, 50, 4, 2, 1, 1, 4, 20};
    DeadCap x = Check.told("d11,12,13;c9;m50;p0,1,0,0,0:100,0;p0,2,0,0,0:100,0:100,0;p0,2,0,0,0:100,0:100,0;p1,1,0,0,0:100,0;");
    x.cut(1);
    x.year();
    x.days(7);
    x.feed(0, 0, 0, 0, 0);
    Sentences.argument("is(?)", what -> (long) x.is(what), 0, 12, -1, what -> (long) want[what]);
    for (int what = 0; what <= 12; what++) {
      due("is(" + what + ")", x.is(what), want[what]);
    }
  }

  private static void limit() {
    DeadCap x = Check.told("l0,10;l1,11;l18,28;l19,29;");
    Sentences.argument("limit(?)", y -> (long) x.limit(y), 0, 19, -1, y -> 10L + y);
    due("limit(2)", x.limit(2), 100000);
  }

  private static void dead() {
    // each is CUT in its first YEAR; its BONUS is 7 and that YEAR
    DeadCap x = Check.told("p0,1,0,7,0:100,0;p1,1,0,8,0:100,0;p18,1,0,25,0:100,0;p19,1,0,26,0:100,0;");
    for (int y = 0; y < 20; y++) {
      x.cut(y == 0 ? 0 : y == 1 ? 1 : y == 18 ? 2 : 3);
      x.year();
    }
    Sentences.argument("dead(?)", y -> (long) x.dead(y), 0, 19, -1, y -> 7L + y);
    due("dead(2)", x.dead(2), 0);
    due("of a new one", new DeadCap().dead(0), 0);
  }

  private static void contract() {
    DeadCap x = Sentences.crowd(3);
    for (int what = -1; what <= 8; what++) {
      int w = what;
      int[] of = {0, 1, 0, 0, 0, 1, 100, 1};
      long inside = what < 0 || what > 7 ? -1 : of[what];
      Sentences.argument("contract(?, " + what + ")", k -> (long) x.contract(k, w), 0, 2, -1, k -> inside);
    }
    due("contract(0, MIN)", x.contract(0, MIN), -1);
    due("contract(0, MAX)", x.contract(0, MAX), -1);
    due("of none", new DeadCap().contract(0, 4), -1);
    DeadCap forty = Sentences.crowd(40);
    Sentences.argument("contract(?, 1)", k -> (long) forty.contract(k, 1), 0, 39, -1, k -> 1L);
    forty.cut(0);
    due("a CUT one does not count", forty.contract(0, 7), 0);
    due("the next one does: 1 to 20", forty.contract(20, 7), 1);
    due("not 21", forty.contract(21, 7), 0);
  }

  private static void yearsLeft() {
    int[] left = {0, 3, 2, 1, 0, 0};
    int[] hits = {0, 110, 210, 310, 0, 0};
    for (int y = 0; y < left.length; y++) {
      DeadCap x = Sentences.told("p1,3,2,50,0:100,0:200,0:300,0;", y, 0);
      due("YEARS left in YEAR " + y, x.contract(0, 5), left[y]);
      due("HIT in YEAR " + y, x.contract(0, 6), hits[y]);
      x.cut(0);
      due("CUT, or refused", x.contract(0, 5), 0);
      due("HIT then", x.contract(0, 6), 0);
    }
    DeadCap last = Sentences.told("p14,6,0,0,0" + Sentences.pays(6) + ";", 18, 0);
    due("in YEAR 18", last.contract(0, 5), 2);
    last.year();
    due("in YEAR 19", last.contract(0, 5), 1);
  }

  private static void pay() {
    DeadCap x = Check.told("p2,2,1,90,0:100,7:200,8;p18,2,0,40,0:300,5:400,6;");
    int[][] of = {{0, 0, 0, 0}, {100, 7, 30, 137}, {200, 8, 30, 238}, {0, 0, 30, 30}, {0, 0, 0, 0}};
    for (int y = 1; y <= 5; y++) {
      for (int what = 0; what < 4; what++) {
        due("pay(0, " + y + ", " + what + ")", x.pay(0, y, what), of[y - 1][what]);
      }
      due("pay(0, " + y + ", -1)", x.pay(0, y, -1), -1);
      due("pay(0, " + y + ", 4)", x.pay(0, y, 4), -1);
    }
    for (int what = 0; what < 4; what++) {
      int w = what;
      int[] in18 = {300, 5, 20, 325};
      int[] in19 = {400, 6, 20, 426};
      Sentences.argument("pay(1, ?, " + what + ")", y -> (long) x.pay(1, y, w), 0, 19, -1, y -> y == 18 ? (long) in18[w] : y == 19 ? in19[w] : 0L);
      Sentences.argument("pay(?, 18, " + what + ")", k -> (long) x.pay(k, 18, w), 0, 1, -1, k -> k == 1 ? (long) in18[w] : 0L);
    }
    due("pay(0, 2, MIN)", x.pay(0, 2, MIN), -1);
    due("pay(0, 2, MAX)", x.pay(0, 2, MAX), -1);
    Sentences.years(x, 2);
    x.cut(0);
    due("as if OPEN", x.pay(0, 3, 3), 238);
    Sentences.years(x, 5);
    due("behind, too", x.pay(0, 2, 3), 137);
  }

  private static void hit() {
    // FIRST YEAR 2, its last YEAR 3, VOID ones 4 and 5: 40 of its BONUS in each
    DeadCap x = Check.told("p2,2,2,160,0:100,7:200,8;");
    int[] hits = {0, 0, 147, 248, 40, 40, 0, 0};
    for (int y = 0; y < hits.length; y++) {
      due("HIT of " + y, x.pay(0, y, 3), hits[y]);
      due("HIT of YEAR " + y, x.contract(0, 6), y <= 3 ? hits[y] : 0);
      due("COUNT of YEAR " + y, x.now(0), y == 4 ? 80 : y > 4 ? 0 : hits[y]);
      x.year();
    }
    DeadCap six = Check.told("p0,6,4,50,0" + Sentences.pays(6) + ";");
    int[] ofSix = {110, 110, 110, 110, 110, 100, 0, 0, 0, 0};
    for (int y = 0; y < ofSix.length; y++) {
      due("of six, five PARTS: " + y, six.pay(0, y, 3), ofSix[y]);
    }
  }

  private static void now() {
    int[] limits = {99, 100, 101};
    for (int limit : limits) {
      DeadCap x = Check.told("l0," + limit + ";p0,1,0,0,0:100,0;");
      Sentences.argument("now(?)", what -> (long) x.now(what), 0, 1, LOW, what -> what == 0 ? 100L : limit - 100L);
    }
    DeadCap low = Check.told("l0,0;" + Sentences.times("p0,1,0,0,0:99999,99999;", 20));
    due("far below 0", low.now(1), -20 * 199998);
  }

  private static void would() {
    DeadCap x = Check.told("p0,2,0,202,0:100,0:100,0;p1,1,0,0,0:100,0;p0,1,0,0,0:100,0;");
    Sentences.argument("would(0, ?)", what -> (long) x.would(0, what), 0, 3, LOW, what -> what == 1 ? 0L : what == 3 ? -1L : 202L);
    due("would(0, 2)", x.would(0, 2), 202);
    for (int what = 0; what < 4; what++) {
      int w = what;
      Sentences.argument("would(?, " + what + ")", k -> (long) x.would(k, w), 0, 2, LOW,
          k -> k == 1 ? (long) LOW : k == 2 ? (w == 3 ? 100L : 0L) : w == 1 ? 0L : w == 3 ? -1L : 202L);
    }
    x.cut(2);
    due("CUT", x.would(2, 0), LOW);
    x.year();
    due("begun", x.would(1, 3), 100);
    x.year();
    due("over", x.would(0, 0), LOW);
  }

  private static void says() {
    DeadCap x = Check.told("p0,1,0,0,0:100,0;p1,1,0,0,0:100,0;p0,1,0,0,0:100,0;");
    Sentences.argument("says(?), no POLICY", k -> x.says(k), 0, 2, Sentences.NO_SUM, k -> Sentences.NO_SUM);
    Check.policy(x, "n+5");
    Sentences.argument("says(?)", k -> x.says(k), 0, 2, Sentences.NO_SUM, k -> k == 1 ? Sentences.NO_SUM : k + 5L);
    x.cut(2);
    due("CUT", x.says(2), Sentences.NO_SUM);
    x.year();
    due("over", x.says(0), Sentences.NO_SUM);
    due("begun", x.says(1), 6);
    String[] sums = {"0-1", "0", "1", "999999*999999", "0-999999*999999", "999999*999999*999999", "y", "y-1", "y-2"};
    long[] want = {-1, 0, 1, 999998000001L, -999998000001L, 999998000001L * 999999L, 1, 0, -1};
    for (int i = 0; i < sums.length; i++) {
      Check.policy(x, sums[i]);
      due(sums[i], x.says(1), want[i]);
    }
  }

  private static void dueSums(DeadCap x, int k, int[] want) {
    String[] letters = {"h", "x", "s", "y", "b", "n"};
    for (int i = 0; i < letters.length; i++) {
      due("policy " + letters[i], Check.policy(x, letters[i]), 1);
      due(letters[i] + " of " + k, x.says(k), want[i]);
    }
  }

  private static void letters() {
    String s = "p0,3,1,403,50:101,7:201,8:301,9;";
    // PARTS of 103, 100, 100 and 100; 50 of BASE are SURE
    dueSums(Sentences.told(s, 0, 19), 0, new int[] {211, 453, 211 - 453, 3, 101, 0});
    dueSums(Sentences.told(s, 0, 20), 0, new int[] {211, 460, 211 - 460, 3, 101, 0});
    dueSums(Sentences.told(s, 0, 149), 0, new int[] {211, 460, 211 - 460, 3, 101, 0});
    dueSums(Sentences.told(s, 0, 150), 0, new int[] {211, 460, 211 - 160, 3, 101, 0});
    dueSums(Sentences.told(s, 1, 0), 0, new int[] {309, 300, 9, 2, 201, 0});
    dueSums(Sentences.told(s, 2, 0), 0, new int[] {410, 200, 210, 1, 301, 0});
    DeadCap forty = Sentences.crowd(40);
    dueSums(forty, 39, new int[] {100, 0, 0, 1, 100, 39});
    Check.text(forty, "c40;");
    due("policy", Check.policy(forty, "s*1000+n"), 3);
    due("all count in full", forty.says(39), 100039);
    DeadCap most = Check.told("p0,6,4,99999,100" + Sentences.times(":99999,99999", 6) + ";");
    most.days(364);
    dueSums(most, 0, new int[] {2 * 99999 + 20003, 3 * 99999, 0, 6, 99999, 0});
    DeadCap least = Check.told("m0;p0,1,0,0,0:0,0;");
    dueSums(least, 0, new int[] {0, 0, 0, 1, 0, 0});
    DeadCap wide = Sentences.crowd(1);
    // beyond a long the document tells nothing: it goes round as a long does
    due("policy", Check.policy(wide, "999999*999999*999999*999999"), 4);
    due("it goes round", wide.says(0), 999999L * 999999L * 999999L * 999999L);
  }

  private static void promised() {
    DeadCap x = Sentences.crowd(2);
    x.promise(1, 0, 7, true);
    x.promise(0, 19, 99999, false);
    x.earn(0);
    int[][] of = {{1, 0, 7, 1, 1}, {0, 19, 99999, 0, 0}};
    for (int what = 0; what < 5; what++) {
      int w = what;
      Sentences.argument("promised(?, " + what + ")", i -> (long) x.promised(i, w), 0, 1, -1, i -> (long) of[i][w]);
    }
    for (int i = 0; i < 2; i++) {
      int p = i;
      Sentences.argument("promised(" + i + ", ?)", what -> (long) x.promised(p, what), 0, 4, -1, what -> (long) of[p][what]);
    }
    due("of none", new DeadCap().promised(0, 0), -1);
  }

  // ---- promises 30, 38 ----

  private static void sets() {
    Sentences.holds("SET: of all sets of the first 10 OPEN ones that have begun (by number) those by whose CUT now (one behind the other) ROOM is a goal at least:",
        EdgesOfAnswers::tenOfSet, 30);
    Sentences.holds("the one with the least DEAD money in all, of like ones the fewest, then the least as bits of those 10.", EdgesOfAnswers::bestSet, 30);
    Sentences.holds("SET for a goal: DEAD money in all (what 0), the set as bits (1). -2: none; NONE for others.", EdgesOfAnswers::whatOfSet, 30);
    Sentences.holds("FIT: of all ways to keep, CUT or TURN (MOST) each of the first 6 OPEN ones that have begun those by which ROOM "
        + "(as if all were done at once) is a goal at least:", EdgesOfAnswers::sixOfFit, 38);
    Sentences.holds("the one with the least DEAD money in all; of like ones the first (a number to the base 3, the first of the six the lowest digit: "
        + "0 kept, 1 CUT, 2 TURNED).", EdgesOfAnswers::bestFit, 38);
    Sentences.holds("FIT for a goal: DEAD money in all (what 0), those that are CUT (1), TURNED (2), as bits of the six. -2: none; NONE for others.",
        EdgesOfAnswers::whatOfFit, 38);
  }

  private static void tenOfSet() {
    for (int n : new int[] {0, 1, 2, 9, 10, 11, 12, 20}) {
      DeadCap x = Sentences.crowd(n);
      int room = x.now(1);
      int most = Math.min(10, n);
      due("of " + n + " none needed", x.set(room, 1), 0);
      due("of " + n + " all", x.set(room + 100 * most, 1), (1 << most) - 1);
      due("of " + n + " one less", x.set(room + 100 * most - 1, 1), (1 << most) - 1);
      due("of " + n + " one more", x.set(room + 100 * most + 1, 1), -2);
    }
    int[] goals = {99799, 99800, 99801, 99899, 99900, 99901, 99999, 100000, 100001};
    int[] bits = {0, 0, 1, 1, 1, 3, 3, 3, -2};
    for (int i = 0; i < goals.length; i++) {
      due("set(" + goals[i] + ", 1)", Sentences.crowd(2).set(goals[i], 1), bits[i]);
    }
    DeadCap mixed = Check.told("p1,1,0,0,0:100,0;p0,1,0,0,0:100,0;" + Sentences.times("p0,1,0,0,0:100,0;", 11));
    mixed.cut(1);
    // 0 has not begun, 1 is CUT: the ten are 2 to 11, 12 is not among them
    due("ROOM", mixed.now(1), 98900);
    due("the ten", mixed.set(99900, 1), 1023);
    due("not more", mixed.set(99901, 1), -2);
    mixed.cut(2);
    due("then 3 to 12", mixed.set(100000, 1), 1023);
    mixed.cut(3);
    due("then nine", mixed.set(100000, 1), 511);
    due("nothing is done", mixed.is(8), 10);
    // one alone counts in full: by a CUT of it the other counts in its stead
    DeadCap rule = Check.told("c1;p0,1,0,0,0:300,0;p0,1,0,0,0:200,0;");
    due("100 by one", rule.set(99800, 1), 1);
    due("101 by both", rule.set(99801, 1), 3);
    due("300 by both", rule.set(100000, 1), 3);
  }

  private static void bestSet() {
    // 0 leaves 1 and brings 99, 1 leaves none and brings 100, 2 leaves 2 and brings 98
    DeadCap least = Check.told("p0,1,0,0,1:100,0;p0,1,0,0,0:100,0;p0,1,0,0,2:100,0;");
    int[] goals = {99799, 99800, 99801, 99898, 99899, 99900, 99997, 99998};
    int[] bits = {2, 2, 3, 3, 3, 7, 7, -2};
    int[] money = {0, 0, 1, 1, 1, 3, 3, -2};
    for (int i = 0; i < goals.length; i++) {
      due("set(" + goals[i] + ", 1)", least.set(goals[i], 1), bits[i]);
      due("set(" + goals[i] + ", 0)", least.set(goals[i], 0), money[i]);
    }
    // 0 and 1 bring 50 each, 2 brings 99 to 101, all for none
    int[] third = {99, 100, 101};
    int[] hundred = {3, 4, 4};
    for (int i = 0; i < 3; i++) {
      DeadCap x = Check.told("m0;p0,1,0,0,0:50,0;p0,1,0,0,0:50,0;p0,1,0,0,0:" + third[i] + ",0;");
      due("of like ones the fewest", x.set(x.now(1) + 100, 1), hundred[i]);
    }
    // the same, but of 2 there is 1 left DEAD: two for none come ahead of one for 1
    DeadCap dear = Check.told("m0;p0,1,0,0,0:50,0;p0,1,0,0,0:50,0;p0,1,0,0,1:101,0;");
    due("DEAD money comes first", dear.set(dear.now(1) + 100, 1), 3);
    DeadCap like = Sentences.crowd(10);
    for (int n = 0; n <= 10; n++) {
      due("the least as bits, " + n, like.set(99000 + 100 * n, 1), (1 << n) - 1);
    }
  }

  private static void whatOfSet() {
    Sentences.argument("set(0, ?)", what -> (long) Sentences.crowd(1).set(0, what), 0, 1, -1, what -> 0L);
    Sentences.argument("set(100001, ?)", what -> (long) Sentences.crowd(1).set(100001, what), 0, 1, -1, what -> -2L);
    for (int what = 0; what < 2; what++) {
      int w = what;
      DeadCap x = Sentences.crowd(1);
      Sentences.argument("set(?, " + what + ")", goal -> (long) x.set(goal, w), -999999, 999999, -1, goal -> goal < 0 ? 0L : -2L);
    }
    DeadCap spent = Check.told("p0,1,0,70,0:100,0;p0,1,0,0,50:100,0;");
    spent.cut(0);
    due("what is DEAD already is none of it", spent.set(spent.now(1), 0), 0);
    due("50 by the CUT", spent.set(spent.now(1) + 50, 0), 50);
    DeadCap next = Sentences.told("p0,2,0,200,0:100,0:100,0;", 0, 150);
    due("of the next YEAR, too", next.set(next.now(1) + 100, 0), 200);
    due("not more", next.set(next.now(1) + 101, 0), -2);
  }

  private static void sixOfFit() {
    for (int n : new int[] {0, 1, 2, 5, 6, 7, 8}) {
      DeadCap x = Sentences.crowd(n);
      int room = x.now(1);
      int most = Math.min(6, n);
      due("of " + n + " none needed", x.fit(room, 1), 0);
      due("of " + n + " all", x.fit(room + 100 * most, 1), (1 << most) - 1);
      due("of " + n + " one less", x.fit(room + 100 * most - 1, 1), (1 << most) - 1);
      due("of " + n + " one more", x.fit(room + 100 * most + 1, 1), -2);
    }
    int[] goals = {99799, 99800, 99801, 99899, 99900, 99901, 99999, 100000, 100001};
    int[] bits = {0, 0, 1, 1, 1, 3, 3, 3, -2};
    for (int i = 0; i < goals.length; i++) {
      due("fit(" + goals[i] + ", 1)", Sentences.crowd(2).fit(goals[i], 1), bits[i]);
    }
    DeadCap mixed = Check.told("p1,1,0,0,0:100,0;p0,1,0,0,0:100,0;" + Sentences.times("p0,1,0,0,0:100,0;", 7));
    mixed.cut(1);
    due("ROOM", mixed.now(1), 99300);
    due("2 to 7", mixed.fit(99900, 1), 63);
    due("not more", mixed.fit(99901, 1), -2);
    mixed.cut(2);
    due("3 to 8", mixed.fit(100000, 1), 63);
    mixed.cut(3);
    due("five", mixed.fit(100000, 1), 31);
    // all SURE, so that a TURN alone brings something: 400 of 500, of which 200 count now
    DeadCap turn = Check.told("p0,2,0,0,100:500,0:100,0;");
    due("199", turn.fit(99699, 2), 1);
    due("200", turn.fit(99700, 2), 1);
    due("201", turn.fit(99701, 2), -2);
    // 301 of 401: 151 of it counts now, what is left over is in the first PART
    DeadCap odd = Check.told("p0,2,0,0,100:401,0:100,0;");
    due("MOST", odd.turned(0, 0), 301);
    due("less", odd.turned(0, 1), 150);
    due("149", odd.fit(odd.now(1) + 149, 2), 1);
    due("150", odd.fit(odd.now(1) + 150, 2), 1);
    due("151", odd.fit(odd.now(1) + 151, 2), -2);
    // done at once: 0 TURNED counts 300, so that 1 counts in full in its stead
    DeadCap rule = Check.told("c1;p0,2,0,0,100:500,0:100,0;p0,1,0,0,100:301,0;");
    due("0 TURNED: 301 and its PART of 200", rule.fit(99500, 2), 0);
    due("nothing is better", rule.fit(99501, 0), -2);
    DeadCap less = Check.told("c1;p0,2,0,0,100:500,0:100,0;p0,1,0,0,100:299,0;");
    due("0 TURNED counts 300", less.fit(99700, 2), 1);
    due("not more", less.fit(99701, 2), -2);
  }

  private static void bestFit() {
    // of 0 a CUT (way 1) and a TURN (way 2), of 1 a CUT (way 3) and a TURN (way 6), all for none
    String two = "p0,2,0,0,0:300,0:100,0;p0,2,0,0,0:300,0:100,0;";
    DeadCap x = Check.told(two);
    int room = x.now(1);
    // a TURN brings 100, a CUT 300
    int[] more = {0, 1, 100, 101, 300, 301, 400, 401, 600, 601};
    int[] cut = {0, 1, 1, 1, 1, 3, 3, 3, 3, -2};
    int[] turned = {0, 0, 0, 0, 0, 0, 0, 0, 0, -2};
    for (int i = 0; i < more.length; i++) {
      due("CUT for " + more[i], x.fit(room + more[i], 1), cut[i]);
      due("TURNED for " + more[i], x.fit(room + more[i], 2), turned[i]);
    }
    // of 0 a CUT leaves 3: a TURN of it for none is way 2, ahead of a CUT of 1, way 3
    DeadCap first = Check.told("p0,2,0,0,1:300,0:100,0;p0,2,0,0,0:300,0:100,0;");
    int[] goals = {0, 1, 100, 101, 300, 301, 400, 401, 597, 598};
    int[] cutThen = {0, 0, 0, 2, 2, 2, 2, 3, 3, -2};
    int[] turnedThen = {0, 1, 1, 0, 0, 1, 1, 0, 0, -2};
    int[] money = {0, 0, 0, 0, 0, 0, 0, 3, 3, -2};
    for (int i = 0; i < goals.length; i++) {
      due("CUT for " + goals[i], first.fit(room + goals[i], 1), cutThen[i]);
      due("TURNED for " + goals[i], first.fit(room + goals[i], 2), turnedThen[i]);
      due("money for " + goals[i], first.fit(room + goals[i], 0), money[i]);
    }
    // the sixth is the highest digit: it alone can be TURNED, all are SURE
    DeadCap six = Check.told(Sentences.times("p0,1,0,0,100:100,0;", 5) + "p0,2,0,0,100:300,0:100,0;");
    due("the sixth", six.fit(six.now(1) + 100, 2), 32);
    due("none is CUT", six.fit(six.now(1) + 100, 1), 0);
    DeadCap seventh = Check.told(Sentences.times("p0,1,0,0,100:100,0;", 6) + "p0,2,0,0,100:300,0:100,0;");
    due("the seventh is none of them", seventh.fit(seventh.now(1) + 1, 2), -2);
  }

  private static void whatOfFit() {
    Sentences.argument("fit(0, ?)", what -> (long) Sentences.crowd(1).fit(0, what), 0, 2, -1, what -> 0L);
    Sentences.argument("fit(100001, ?)", what -> (long) Sentences.crowd(1).fit(100001, what), 0, 2, -1, what -> -2L);
    for (int what = 0; what < 3; what++) {
      int w = what;
      DeadCap x = Sentences.crowd(1);
      Sentences.argument("fit(?, " + what + ")", goal -> (long) x.fit(goal, w), -999999, 999999, -1, goal -> goal < 0 ? 0L : -2L);
    }
    DeadCap spent = Check.told("p0,1,0,70,0:100,0;p0,1,0,0,50:100,0;");
    spent.cut(0);
    due("what is DEAD already is none of it", spent.fit(spent.now(1), 0), 0);
    due("50 by the CUT", spent.fit(spent.now(1) + 50, 0), 50);
  }

  // ---- promises 31, 36, 39 ----

  private static void turned() {
    Sentences.holds("MOST TURNED of a CONTRACT: what BASE of YEAR is above LEAST PAY; by how much COUNT of YEAR were less.", EdgesOfAnswers::mostTurned, 31);
    Sentences.holds("MOST TURNED of a CONTRACT (OPEN, begun): how much (what 0; 0 if no YEAR of its YEARS is this one), by how much COUNT were less (1). "
        + "NONE for others.", EdgesOfAnswers::whoIsTurned, 31);
    Sentences.holds("ALL TURNED: ROOM, if of each OPEN one that has begun MOST were TURNED.", EdgesOfAnswers::allTurned, 36);
    Sentences.holds("PIECE i (0 to 4) of a TURN of x (1 to 99999; BASE isn't asked). NONE: its CUT would be refused, others.", EdgesOfAnswers::piece, 39);
    Sentences.holds("PIECE i of a TURN of x: what lies in the i-th YEAR from this one on.", EdgesOfAnswers::pieceByYear, 39);
  }

  private static void mostTurned() {
    int[] least = {0, 498, 499, 500, 501, 9999};
    int[] most = {500, 2, 1, 0, 0, 0};
    int[] less = {250, 1, 0, 0, 0, 0};
    for (int i = 0; i < least.length; i++) {
      DeadCap x = Check.told("p0,2,0,0,0:500,0:100,0;m" + least[i] + ";");
      due("turned(0, 0)", x.turned(0, 0), most[i]);
      due("turned(0, 1)", x.turned(0, 1), less[i]);
      if (most[i] > 0) {
        int before = x.now(0);
        Sentences.done("as much can be TURNED", x, a -> a.turn(0, most[indexOf(least, a.is(6))]), 500 - less[i]);
        due("COUNT is so much less", before - x.now(0), less[i]);
      }
      Sentences.refused("one more can't", x, a -> a.turn(0, 1), 5);
    }
    DeadCap x = Check.told("c1;p0,1,0,0,0:300,0;p0,1,0,0,0:200,0;");
    due("of one that does not count in full COUNT is more", x.turned(1, 1), -100);
  }

  private static int indexOf(int[] row, int v) {
    for (int i = 0; i < row.length; i++) {
      if (row[i] == v) {
        return i;
      }
    }
    return 0;
  }

  private static void whoIsTurned() {
    String s = "p0,1,0,0,0:300,0;p1,2,0,0,0:300,0:300,0;p0,2,0,0,0:300,0:300,0;";
    DeadCap x = Check.told(s);
    Sentences.argument("turned(?, 0)", k -> (long) x.turned(k, 0), 0, 2, -1, k -> k == 1 ? -1L : 200L);
    Sentences.argument("turned(?, 1)", k -> (long) x.turned(k, 1), 0, 2, -1, k -> k == 1 ? -1L : k == 0 ? 0L : 100L);
    Sentences.argument("turned(0, ?)", what -> (long) x.turned(0, what), 0, 1, -1, what -> what == 0 ? 200L : 0L);
    x.year();
    due("over", x.turned(0, 0), -1);
    due("begun", x.turned(1, 0), 200);
    due("in its last YEAR", x.turned(2, 0), 200);
    x.cut(1);
    due("CUT", x.turned(1, 0), -1);
  }

  private static void allTurned() {
    int[] base = {100, 101, 102, 103, 104};
    int[] count = {100, 101, 101, 102, 102};
    for (int i = 0; i < base.length; i++) {
      due("BASE " + base[i], Check.told("p0,2,0,0,0:" + base[i] + ",0:100,0;").allTurned(), 100000 - count[i]);
    }
    due("of none", new DeadCap().allTurned(), 100000);
    DeadCap x = Check.told("l0,0;l1,0;p0,2,0,0,0:300,0:300,0;p1,2,0,0,0:300,0:300,0;p0,1,0,0,0:300,0;");
    x.cut(2);
    due("one has begun, one is CUT", x.allTurned(), -200);
    x.year();
    due("of the last YEAR all of it counts", x.allTurned(), -300 - 200);
  }

  private static void piece() {
    DeadCap x = Check.told("p0,5,0,0,0" + Sentences.pays(5) + ";p1,1,0,0,0:100,0;p0,1,0,0,0:100,0;");
    Sentences.argument("piece(0, 1003, ?)", i -> (long) x.piece(0, 1003, i), 0, 4, -1, i -> i == 0 ? 203L : 200L);
    Sentences.argument("piece(0, ?, 0)", v -> (long) x.piece(0, v, 0), 1, 99999, -1, v -> (long) (v / 5 + v % 5));
    Sentences.argument("piece(0, ?, 4)", v -> (long) x.piece(0, v, 4), 1, 99999, -1, v -> (long) (v / 5));
    Sentences.argument("piece(?, 7, 0)", k -> (long) x.piece(k, 7, 0), 0, 2, -1, k -> k == 1 ? -1L : k == 0 ? 3L : 7L);
    x.cut(2);
    due("CUT", x.piece(2, 7, 0), -1);
    due("BASE isn't asked", x.turned(0, 0), 0);
    Sentences.years(x, 1);
    due("begun", x.piece(1, 7, 0), 7);
    x.year();
    due("over", x.piece(1, 7, 0), -1);
  }

  private static void pieceByYear() {
    int[] first = {0, 99, 50, 33, 27, 23, 23};
    int[] other = {0, 0, 49, 33, 24, 19, 19};
    for (int v = 0; v <= 4; v++) {
      for (int year = 4; year <= 5; year++) {
        int left = 6 + v - year;
        DeadCap x = Sentences.told("p0,6," + v + ",0,0" + Sentences.times(":199,0", 6) + ";", year, 0);
        int many = Math.min(5, left);
        for (int i = 0; i <= 4; i++) {
          int want = i >= many ? 0 : i == 0 ? first[left] : other[left];
          due("piece " + i + " of " + left, x.piece(0, 99, i), want);
        }
        x.turn(0, 99);
        for (int i = 0; i <= 4; i++) {
          int want = i >= many ? 0 : i == 0 ? first[left] : other[left];
          due("so it lies then", x.pay(0, year + i, 2), want);
        }
      }
    }
    DeadCap last = Sentences.told("p19,1,0,0,0:100,0;p18,2,0,0,0:100,0:100,0;", 19, 0);
    for (int k = 0; k < 2; k++) {
      due("in YEAR 19", last.piece(k, 99, 0), 99);
      due("none behind", last.piece(k, 99, 1), 0);
    }
  }

  // ---- promises 32, 51 ----

  private static void yearsToCome() {
    Sentences.holds("YEARS TO COME: COUNT of a YEAR behind this one. NONE for others.", EdgesOfAnswers::ahead, 32);
    Sentences.holds("YEARS TO COME: COUNT of a YEAR ahead as CONTRACTS are now (those over by then with their DEAD PARTS; all HITS count, "
        + "and LIKELY PROMISES of those that are not over by then).", EdgesOfAnswers::aheadAsTheyAre, 32);
    Sentences.holds("Of the next n (1 to 10) YEARS (to 19) those, as bits, whose YEARS TO COME are above their LIMIT. NONE for others.", EdgesOfAnswers::over, 51);
  }

  private static void ahead() {
    for (int now : new int[] {0, 1, 17, 18, 19}) {
      DeadCap x = Sentences.inYear(now);
      for (int y : new int[] {MIN, -1, 0, now - 1, now, now + 1, now + 2, 18, 19, 20, MAX}) {
        due("ahead(" + y + ") in " + now, x.ahead(y), y > now && y <= 19 ? 0 : -1);
      }
    }
    DeadCap last = Sentences.told("p19,1,0,0,0:100,0;", 18, 0);
    due("19", last.ahead(19), 100);
    last.year();
    due("this one", last.ahead(19), -1);
  }

  private static void aheadAsTheyAre() {
    DeadCap x = Check.told("p0,2,2,403,0:1000,7:2000,8;");
    int[] counts = {-1, 2000 + 8 + 100, 200, 0, 0};
    for (int y = 0; y < counts.length; y++) {
      due("ahead(" + y + ")", x.ahead(y), counts[y]);
    }
    x.promise(0, 1, 50, true);
    x.promise(0, 2, 60, true);
    x.promise(0, 1, 70, false);
    due("in its last YEAR", x.ahead(1), counts[1] + 50);
    due("over by then", x.ahead(2), counts[2]);
    int[] was = {x.ahead(1), x.ahead(2), x.ahead(3)};
    for (int y = 1; y <= 3; y++) {
      x.year();
      due("as it was told in YEAR 0", x.now(0), was[y - 1]);
    }
    DeadCap later = Check.told("p2,1,0,0,0:100,0;");
    later.promise(0, 1, 5, true);
    due("not over by then, not begun", later.ahead(1), 5);
    due("its first", later.ahead(2), 100);
    due("over", later.ahead(3), 0);
    DeadCap all = Check.told("c1;p0,2,0,0,0:100,0:100,0;p0,2,0,0,0:100,0:100,0;p0,2,0,0,0:100,0:100,0;");
    due("one of three now", all.now(0), 100);
    due("all HITS count", all.ahead(1), 300);
    DeadCap cut = Sentences.told("p0,2,2,403,0:1000,7:2000,8;", 0, 150);
    cut.cut(0);
    due("CUT: DEAD the next YEAR", cut.ahead(1), 300);
    due("nothing behind it", cut.ahead(2), 0);
  }

  private static void over() {
    DeadCap x = new DeadCap();
    Sentences.argument("over(?)", n -> (long) x.over(n), 1, 10, -1, n -> 0L);
    int[] limits = {99, 100, 101};
    int[] bits = {1, 0, 0};
    for (int i = 0; i < 3; i++) {
      DeadCap one = Check.told("l1," + limits[i] + ";p1,1,0,0,0:100,0;");
      for (int n = 1; n <= 10; n++) {
        due("LIMIT " + limits[i] + ", over(" + n + ")", one.over(n), bits[i]);
      }
    }
    for (int y = 1; y <= 11; y++) {
      DeadCap one = Check.told("l" + y + ",99;p" + y + ",1,0,0,0:100,0;");
      for (int n = 1; n <= 10; n++) {
        due("YEAR " + y + ", over(" + n + ")", one.over(n), y <= n ? 1 << y - 1 : 0);
      }
    }
    DeadCap full = Check.told("l0,99;p0,1,0,0,0:100,0;");
    due("this YEAR, ROOM -1", full.now(1), -1);
    due("is none of the next", full.over(1), 0);
    due("is none of the next", full.over(10), 0);
    DeadCap last = Sentences.told("l19,0;p19,1,0,0,0:99999,0;", 8, 0);
    // ROOM of each YEAR comes to the next LIMIT, so that of 19 is told anew
    Check.text(last, "l19,0;");
    due("the eleventh YEAR behind 8", last.over(10), 0);
    for (int now = 9; now <= 18; now++) {
      last.year();
      Check.text(last, "l19,0;");
      due("over(10) in " + now, last.over(10), 1 << 18 - now);
      due("over(1) in " + now, last.over(1), now == 18 ? 1 : 0);
    }
    last.year();
    due("none is behind 19", last.over(10), 0);
    due("none is behind 19", last.over(1), 0);
    due("others", last.over(11), -1);
  }

  // ---- promises 33 to 35, 40, 41 ----

  private static void oneContract() {
    Sentences.holds("BEST DAY of one: 1, if DAY is ahead of CUT DAY and less of YEAR were DEAD by a CUT on CUT DAY than today; else 0.", EdgesOfAnswers::bestDay, 33);
    Sentences.holds("BEST DAY. NONE: the CUT would be refused.", EdgesOfAnswers::bestDayRefused, 33);
    Sentences.holds("of its PARTS those that counted (OPEN: of YEARS up to this one; else of those ahead of the one in which it was CUT, over), "
        + "those that became DEAD (all others, if it is not OPEN), those yet to come (OPEN: of YEARS behind this one).", EdgesOfAnswers::coinsByYear, 34);
    Sentences.holds("COINS: all (what 0), counted (1), DEAD (2), to come (3). NONE for others.", EdgesOfAnswers::coins, 34);
    Sentences.holds("FREE YEAR: the first YEAR from this one on in which, on DAY 0 of it, as CONTRACTS are, less were DEAD in all by a CUT "
        + "than its HIT of that YEAR is (in its YEARS, from its first one on).", EdgesOfAnswers::freeYear, 35);
    Sentences.holds("FREE YEAR of an OPEN one. -2: none; NONE for others.", EdgesOfAnswers::freeYearOfOpen, 35);
    Sentences.holds("LAST DAY: from this one to 364 the last one on which a CUT SAVES so much.", EdgesOfAnswers::lastDay, 40);
    Sentences.holds("LAST DAY on which so much is SAVED. -2: none; NONE: its CUT would be refused.", EdgesOfAnswers::lastDayRefused, 40);
    Sentences.holds("CASH of a CONTRACT in a YEAR: BONUSES in the YEAR from which they are SPREAD, and BASE and ROSTER BONUS "
        + "(but in YEARS from the one in which it was CUT, over).", EdgesOfAnswers::cashByYear, 41);
    Sentences.holds("`int cash(int k, int year)`: CASH. NONE for others.", EdgesOfAnswers::cash, 41);
  }

  private static void bestDay() {
    for (int c : new int[] {1, 150, 363, 364}) {
      for (int day = Math.max(0, c - 1); day <= Math.min(364, c + 1); day++) {
        DeadCap x = Sentences.told("d" + c + ",0,0;p0,2,0,200,0:100,0:100,0;", 0, day);
        due("CUT DAY " + c + ", DAY " + day, x.bestDay(0), day < c ? 1 : 0);
      }
    }
    due("CUT DAY 0", Check.told("d0,0,0;p0,2,0,200,0:100,0:100,0;").bestDay(0), 0);
    // today 200 of PARTS; on CUT DAY 100 and the ROSTER BONUS
    int[] roster = {0, 98, 99, 100, 101};
    int[] best = {1, 1, 1, 0, 0};
    for (int i = 0; i < roster.length; i++) {
      String p = "p0,2,0,200,0:100," + roster[i] + ":100,0;";
      due("ROSTER BONUS " + roster[i], Check.told(p).bestDay(0), best[i]);
      due("on CUT DAY itself", Check.told("d150,150,0;" + p).bestDay(0), best[i]);
      due("behind CUT DAY", Check.told("d150,151,0;" + p).bestDay(0), 1);
      due("due already", Check.told("d150,0,0;" + p).bestDay(0), 1);
    }
    int[] bonus = {0, 1, 2};
    int[] byBonus = {0, 0, 1};
    for (int i = 0; i < 3; i++) {
      due("BONUS " + bonus[i], Check.told("p0,2,0," + bonus[i] + ",0:100,0:100,0;").bestDay(0), byBonus[i]);
    }
    String late = "p17,3,0,300,0:100,0:100,0:100,0;";
    due("YEAR 18", Sentences.told(late, 18, 0).bestDay(0), 1);
    due("YEAR 19: all is DEAD now", Sentences.told(late, 19, 0).bestDay(0), 0);
  }

  private static void bestDayRefused() {
    DeadCap x = Check.told("p0,2,0,200,0:100,0:100,0;p1,2,0,200,0:100,0:100,0;p0,1,0,0,0:100,0;");
    Sentences.argument("bestDay(?)", k -> (long) x.bestDay(k), 0, 2, -1, k -> k == 0 ? 1L : k == 1 ? -1L : 0L);
    x.cut(0);
    due("CUT", x.bestDay(0), -1);
    x.year();
    due("begun", x.bestDay(1), 1);
    due("over", x.bestDay(2), -1);
  }

  private static void dueCoins(DeadCap x, int counted, int dead, int toCome) {
    due("all", x.coins(0, 0), counted + dead + toCome);
    due("counted", x.coins(0, 1), counted);
    due("DEAD", x.coins(0, 2), dead);
    due("to come", x.coins(0, 3), toCome);
  }

  private static void coinsByYear() {
    String s = "p1,2,1,301,0:100,0:100,0;";
    int[][] open = {{0, 0, 301}, {101, 0, 200}, {201, 0, 100}, {201, 100, 0}, {201, 100, 0}};
    for (int y = 0; y < open.length; y++) {
      dueCoins(Sentences.told(s, y, 0), open[y][0], open[y][1], open[y][2]);
    }
    int[][] cut = {{0, 301, 0}, {101, 200, 0}};
    for (int y = 1; y <= 2; y++) {
      for (int day : new int[] {0, 149, 150, 364}) {
        DeadCap x = Sentences.told(s, y, day);
        x.cut(0);
        dueCoins(x, cut[y - 1][0], cut[y - 1][1], cut[y - 1][2]);
        x.year();
        dueCoins(x, cut[y - 1][0], cut[y - 1][1], cut[y - 1][2]);
      }
    }
    for (int first : new int[] {0, 1, 2, 3, 10, 19}) {
      DeadCap x = Check.told("p" + first + ",1,0,301,0:100,0;");
      dueCoins(x, first == 0 ? 301 : 0, 0, first == 0 ? 0 : 301);
    }
    DeadCap last = Sentences.told("p18,2,0,301,0:100,0:100,0;", 19, 0);
    dueCoins(last, 301, 0, 0);
    last.cut(0);
    dueCoins(last, 151, 150, 0);
    DeadCap turned = Sentences.told("p0,3,0,300,0:200,0:200,0:200,0;", 1, 0);
    turned.turn(0, 51);
    dueCoins(turned, 100 + 100 + 26, 0, 100 + 25);
  }

  private static void coins() {
    DeadCap x = Check.told("p0,1,0,7,0:100,0;p0,1,0,8,0:100,0;");
    Sentences.argument("coins(0, ?)", what -> (long) x.coins(0, what), 0, 3, -1, what -> what < 2 ? 7L : 0L);
    Sentences.argument("coins(?, 0)", k -> (long) x.coins(k, 0), 0, 1, -1, k -> 7L + k);
    x.cut(1);
    due("CUT ones, too", x.coins(1, 2), 8);
    due("of none", new DeadCap().coins(0, 0), -1);
  }

  private static void freeYear() {
    // YEAR 0: 200 DEAD by a CUT, HIT of 100 and BASE; YEAR 1: 100 DEAD, HIT 200
    int[] base = {100, 101, 199, 99};
    int[] free = {1, 0, 0, 1};
    for (int i = 0; i < base.length; i++) {
      due("BASE " + base[i], Check.told("m0;p0,2,0,200,0:" + base[i] + ",0:100,0;").freeYear(0), free[i]);
    }
    // one YEAR: 99, 100 of a hundred SURE
    int[] sure = {98, 99, 100};
    int[] bySure = {0, 0, -2};
    for (int i = 0; i < 3; i++) {
      due("SURE " + sure[i], Check.told("p0,1,0,500,"  + sure[i] + ":100,0;").freeYear(0), bySure[i]);
    }
    int[] rosterDays = {0, 1, 364};
    int[] byDay = {-2, 0, 0};
    for (int i = 0; i < 3; i++) {
      DeadCap x = Check.told("d150," + rosterDays[i] + ",200;p0,1,0,0,100:100,7;");
      due("ROSTER DAY " + rosterDays[i], x.freeYear(0), byDay[i]);
      x.days(364);
      due("on DAY 0 of it", x.freeYear(0), byDay[i]);
    }
    int[] fromNow = {2, 2, 2, 3, -1};
    for (int y = 0; y < fromNow.length; y++) {
      due("from YEAR " + y, Sentences.told("p2,2,0,0,0:100,0:100,0;", y, 0).freeYear(0), fromNow[y]);
    }
    // VOID YEARS have a HIT, too, but are none of its YEARS
    due("VOID", Check.told("m0;p0,1,4,500,0:0,0;").freeYear(0), -2);
    due("in 19", Sentences.told("p19,1,0,0,0:100,0;", 18, 0).freeYear(0), 19);
    due("in 19", Sentences.told("p19,1,0,0,0:100,0;", 19, 0).freeYear(0), 19);
    due("nothing is paid", Check.told("m0;p0,6,0,0,0" + Sentences.times(":0,0", 6) + ";").freeYear(0), -2);
    due("in the last of six", Check.told("m0;p0,6,0,0,0" + Sentences.times(":0,0", 5) + ":1,0;").freeYear(0), 5);
  }

  private static void freeYearOfOpen() {
    DeadCap x = Check.told("p0,1,0,0,0:100,0;p1,1,0,0,0:100,0;p0,1,0,0,100:100,0;");
    Sentences.argument("freeYear(?)", k -> (long) x.freeYear(k), 0, 2, -1, k -> k == 0 ? 0L : k == 1 ? 1L : -2L);
    x.cut(0);
    due("CUT", x.freeYear(0), -1);
    x.year();
    due("over", x.freeYear(2), -1);
  }

  private static void lastDay() {
    for (int r : new int[] {0, 1, 2, 20, 363, 364}) {
      String s = "d0," + r + ",0;p0,1,0,0,0:600,50;";
      int early = r == 0 ? -2 : r - 1;
      int[] much = {MIN, 0, 599, 600, 601, 649, 650, 651, MAX};
      int[] want = {364, 364, 364, 364, early, early, early, -2, -2};
      for (int i = 0; i < much.length; i++) {
        due("ROSTER DAY " + r + ", " + much[i], Check.told(s).lastDay(0, much[i]), want[i]);
      }
      for (int day = Math.max(1, r - 2); day <= Math.min(364, r + 1); day++) {
        due("from DAY " + day, Sentences.told(s, 0, day).lastDay(0, 601), day < r ? r - 1 : -2);
      }
      due("on DAY 364", Sentences.told(s, 0, 364).lastDay(0, 600), 364);
    }
    // ahead of CUT DAY nothing is SAVED, from it on 100; ahead of SEASON DAY 1 counts in its stead
    String cut = "p0,2,0,200,0:100,0:100,0;";
    int[] much = {99, 100, 101};
    int[] want = {364, 364, -2};
    for (int i = 0; i < 3; i++) {
      due("CUT DAY 364", Check.told("d364,0,0;" + cut).lastDay(0, much[i]), want[i]);
      due("SEASON DAY 364", Check.told("c1;d0,0,364;p0,1,0,0,0:100,0;p0,1,0,0,0:100,0;").lastDay(0, much[i]), want[i]);
    }
    // HIT 350. CUT DAY behind ROSTER DAY: 150 is SAVED to DAY 19, then 0, then 100; ahead of it: 150, then 250, then 100
    String both = ",20,0;p0,2,0,200,0:100,150:100,0;p19,1,0,0,0:100,50;";
    int[] so = {99, 100, 101, 149, 150, 151, 249, 250, 251};
    int[] behind = {364, 364, 19, 19, 19, -2, -2, -2, -2};
    int[] ahead = {364, 364, 19, 19, 19, 19, 19, 19, -2};
    for (int i = 0; i < so.length; i++) {
      due("CUT DAY 150, " + so[i], Check.told("d150" + both).lastDay(0, so[i]), behind[i]);
      due("CUT DAY 10, " + so[i], Check.told("d10" + both).lastDay(0, so[i]), ahead[i]);
    }
    due("in YEAR 19", Sentences.told("d150" + both, 19, 0).lastDay(1, 101), 19);
  }

  private static void lastDayRefused() {
    DeadCap x = Check.told("p0,2,0,0,0:100,0:100,0;p1,2,0,0,0:100,0:100,0;p0,1,0,0,0:100,0;");
    Sentences.argument("lastDay(?, 0)", k -> (long) x.lastDay(k, 0), 0, 2, -1, k -> k == 1 ? -1L : 364L);
    Sentences.argument("lastDay(?, 101)", k -> (long) x.lastDay(k, 101), 0, 2, -1, k -> k == 1 ? -1L : -2L);
    x.cut(0);
    due("CUT", x.lastDay(0, 0), -1);
    x.year();
    due("begun", x.lastDay(1, 100), 364);
    due("over", x.lastDay(2, 0), -1);
  }

  private static void cashByYear() {
    String s = "p1,3,1,400,0:100,7:200,8:300,9;";
    int[] open = {0, 507, 208, 309, 0, 0};
    DeadCap x = Check.told(s);
    for (int y = 0; y < open.length; y++) {
      due("cash(0, " + y + ")", x.cash(0, y), open[y]);
    }
    for (int now = 2; now <= 3; now++) {
      for (boolean traded : new boolean[] {false, true}) {
        DeadCap cut = Sentences.told(s, now, 0);
        due("OPEN", traded ? cut.trade(0) : cut.cut(0), 0);
        for (int y = 0; y < open.length; y++) {
          due("CUT in " + now + ": cash(0, " + y + ")", cut.cash(0, y), y < now ? open[y] : 0);
        }
      }
    }
    DeadCap over = Sentences.told(s, 4, 0);
    due("over", over.contract(0, 4), 2);
    for (int y = 0; y < open.length; y++) {
      due("over: cash(0, " + y + ")", over.cash(0, y), open[y]);
    }
    DeadCap turned = Sentences.told("p0,3,0,0,0:500,0:500,0:500,0;", 1, 0);
    turned.turn(0, 300);
    due("the YEAR ahead", turned.cash(0, 0), 500);
    due("a BONUS in the YEAR from which it is SPREAD", turned.cash(0, 1), 500);
    due("not in the next", turned.cash(0, 2), 500);
    turned.longer(0, 1, 600, 44);
    due("LONGER", turned.cash(0, 1), 544);
    due("its new YEAR", turned.cash(0, 3), 600);
  }

  private static void cash() {
    DeadCap x = Check.told("p0,1,0,7,0:100,0;p19,1,0,8,0:100,0;");
    Sentences.argument("cash(0, ?)", y -> (long) x.cash(0, y), 0, 19, -1, y -> y == 0 ? 107L : 0L);
    Sentences.argument("cash(1, ?)", y -> (long) x.cash(1, y), 0, 19, -1, y -> y == 19 ? 108L : 0L);
    Sentences.argument("cash(?, 0)", k -> (long) x.cash(k, 0), 0, 1, -1, k -> k == 0 ? 107L : 0L);
    due("of none", new DeadCap().cash(0, 0), -1);
  }

  // ---- promises 37, 43, 44, 46 ----

  private static void ranks() {
    Sentences.holds("OPEN CONTRACTS by HIT of YEAR (the greatest first, of like ones the first): the one in place i. NONE: there are not so many.",
        EdgesOfAnswers::ranked, 37);
    Sentences.holds("TAG: the mean (cut) of so many greatest HITS of OPEN ones (of all, if there are fewer).", EdgesOfAnswers::tagOfFewer, 43);
    Sentences.holds("TAG of the many (1 to 40) greatest. -2: none is OPEN; NONE for others.", EdgesOfAnswers::tag, 43);
    Sentences.holds("Of OPEN ones the least HIT that counts in full now (what 0; -2: none does), how many don't count so (1). NONE for others.",
        EdgesOfAnswers::counted, 44);
    Sentences.holds("The OPEN one with the greatest HIT in a YEAR (of like ones the first). -2: none is OPEN; NONE for others.", EdgesOfAnswers::dearest, 46);
  }

  private static void ranked() {
    DeadCap x = Check.told("p0,1,0,0,0:101,0;p0,1,0,0,0:100,0;p0,1,0,0,0:101,0;p1,1,0,0,0:900,0;p0,1,0,0,0:102,0;");
    int[] order = {4, 0, 2, 1, 3};
    Sentences.argument("ranked(?)", i -> (long) x.ranked(i), 0, 4, -1, i -> (long) order[i]);
    due("ranked(2)", x.ranked(2), 2);
    x.cut(0);
    due("four: the last", x.ranked(3), 3);
    due("not so many", x.ranked(4), -1);
    due("of none", new DeadCap().ranked(0), -1);
    DeadCap forty = Sentences.crowd(40);
    Sentences.argument("ranked(?) of 40", i -> (long) forty.ranked(i), 0, 39, -1, i -> (long) i);
    forty.year();
    due("all are over", forty.ranked(0), -1);
  }

  private static void tagOfFewer() {
    DeadCap x = Check.told("p0,1,0,0,0:100,0;p0,1,0,0,0:103,0;p0,1,0,0,0:102,0;");
    int[] many = {1, 2, 3, 4, 5, 39, 40};
    int[] mean = {103, 102, 101, 101, 101, 101, 101};
    for (int i = 0; i < many.length; i++) {
      due("tag(" + many[i] + ")", x.tag(many[i]), mean[i]);
    }
    int[] third = {101, 102, 103};
    int[] cut = {101, 101, 102};
    for (int i = 0; i < 3; i++) {
      DeadCap y = Check.told("p0,1,0,0,0:101,0;p0,1,0,0,0:102,0;p0,1,0,0,0:" + third[i] + ",0;");
      due("cut", y.tag(3), cut[i]);
    }
    DeadCap later = Check.told("p0,1,0,0,0:101,0;p1,1,0,0,0:900,0;");
    due("one that has not begun has no HIT", later.tag(2), 50);
    StringBuilder s = new StringBuilder("m0;");
    for (int i = 0; i < 20; i++) {
      s.append("p0,1,0,0,0:").append(i < 1 ? 40 : 0).append(",0;");
    }
    DeadCap forty = Check.told(s.toString());
    Check.text(forty, Sentences.times("p0,1,0,0,0:0,0;", 20));
    due("of 39", forty.tag(39), 1);
    due("of 40", forty.tag(40), 1);
    due("of 38", forty.tag(38), 1);
  }

  private static void tag() {
    DeadCap x = Sentences.crowd(3);
    Sentences.argument("tag(?)", many -> (long) x.tag(many), 1, 40, -1, many -> 100L);
    DeadCap none = new DeadCap();
    Sentences.argument("tag(?) of none", many -> (long) none.tag(many), 1, 40, -1, many -> -2L);
    DeadCap cut = Sentences.crowd(1);
    due("one", cut.tag(1), 100);
    cut.cut(0);
    due("none is OPEN", cut.tag(1), -2);
  }

  private static void counted() {
    DeadCap x = Sentences.crowd(3);
    Sentences.argument("counted(?)", what -> (long) x.counted(what), 0, 1, -1, what -> what == 0 ? 100L : 0L);
    DeadCap none = new DeadCap();
    Sentences.argument("counted(?) of none", what -> (long) none.counted(what), 0, 1, -1, what -> what == 0 ? -2L : 0L);
    int[] how = {19, 20, 21};
    int[] dont = {0, 0, 1};
    for (int i = 0; i < 3; i++) {
      due("COUNTED is 20, of " + how[i], Sentences.crowd(how[i]).counted(1), dont[i]);
    }
    DeadCap one = Check.told("c1;p0,1,0,0,0:100,0;p0,1,0,0,0:100,0;");
    one.cut(0);
    due("the other does then", one.counted(0), 100);
    due("none doesn't", one.counted(1), 0);
    one.cut(1);
    due("none is OPEN", one.counted(0), -2);
  }

  private static void dearest() {
    DeadCap x = Check.told("p0,2,0,0,0:101,0:100,0;p0,2,0,0,0:102,0:100,0;p0,2,0,0,0:102,0:101,0;p19,1,0,0,0:100,0;");
    Sentences.argument("dearest(?)", y -> (long) x.dearest(y), 0, 19, -1, y -> y == 0 ? 1L : y == 1 ? 2L : y == 19 ? 3L : 0L);
    x.cut(1);
    due("the next of like ones", x.dearest(0), 2);
    x.cut(0);
    due("none has a HIT: the first", x.dearest(5), 2);
    DeadCap none = new DeadCap();
    Sentences.argument("dearest(?) of none", y -> (long) none.dearest(y), 0, 19, -1, y -> -2L);
    DeadCap cut = Sentences.crowd(1);
    due("one", cut.dearest(0), 0);
    cut.cut(0);
    due("none is OPEN", cut.dearest(0), -2);
  }

  // ---- promises 42, 45, 50 ----

  private static void money() {
    Sentences.holds("CASH of all CONTRACTS in a YEAR. NONE for others.", EdgesOfAnswers::allCash, 42);
    Sentences.holds("SHARE: what is DEAD in a YEAR times 10000 by its LIMIT (cut; 1000000000 at most).", EdgesOfAnswers::shareAtMost, 45);
    Sentences.holds("SHARE. -2: LIMIT is 0; NONE for others.", EdgesOfAnswers::share, 45);
    Sentences.holds("FLOOR of a YEAR: with the next three (to 19) CASH of all; 89 of a hundred of their LIMITS together (cut); what lacks of that.",
        EdgesOfAnswers::floorByYear, 50);
    Sentences.holds("FLOOR: CASH (what 0), 89 of a hundred of LIMITS (1), what lacks (2). NONE for others.", EdgesOfAnswers::floor, 50);
  }

  private static void allCash() {
    DeadCap x = Check.told("p0,1,0,7,0:100,0;p19,1,0,8,0:100,0;p0,1,0,9,0:100,0;");
    Sentences.argument("allCash(?)", y -> (long) x.allCash(y), 0, 19, -1, y -> y == 0 ? 216L : y == 19 ? 108L : 0L);
    due("of none", new DeadCap().allCash(0), 0);
    DeadCap most = new DeadCap();
    for (int i = 0; i < 2; i++) {
      Check.text(most, Sentences.times("p0,1,0,99999,0:99999,99999;", 18));
    }
    Check.text(most, Sentences.times("p0,1,0,99999,0:99999,99999;", 4));
    due("of 40", most.allCash(0), 40 * 3 * 99999);
    Check.text(most, "c40;");
    due("COUNT of 40", most.now(0), 40 * 3 * 99999);
  }

  private static void shareAtMost() {
    int[] dead = {99999, 100000, 100001};
    int[] share = {999990000, 1000000000, 1000000000};
    for (int i = 0; i < 3; i++) {
      DeadCap x = Check.told("l0,1;p0,1,0,99998,0:100,0;p0,1,0," + (dead[i] - 99998) + ",0:100,0;");
      x.cut(0);
      x.cut(1);
      due("dead(0)", x.dead(0), dead[i]);
      due("share(0)", x.share(0), share[i]);
    }
    int[] limits = {1, 2, 3, 9999, 10000, 10001, 999999};
    int[] of1 = {10000, 5000, 3333, 1, 1, 0, 0};
    for (int i = 0; i < limits.length; i++) {
      DeadCap x = Check.told("l0," + limits[i] + ";p0,1,0,1,0:100,0;");
      due("nothing is DEAD", x.share(0), 0);
      x.cut(0);
      due("1 of " + limits[i], x.share(0), of1[i]);
    }
  }

  private static void share() {
    DeadCap x = new DeadCap();
    Sentences.argument("share(?)", y -> (long) x.share(y), 0, 19, -1, y -> 0L);
    for (int y : new int[] {0, 1, 18, 19}) {
      DeadCap none = Check.told("l" + y + ",0;");
      due("LIMIT 0 of " + y, none.share(y), -2);
      due("the others", none.share(y == 0 ? 1 : y - 1), 0);
      Check.text(none, "l" + y + ",1;");
      due("LIMIT 1", none.share(y), 0);
    }
  }

  private static void floorByYear() {
    DeadCap x = Check.told("m0;l15,100;l16,200;l17,400;l18,800;l19,1600;p14,6,0,0,0:1,0:10,0:100,0:1000,0:10000,0:50000,0;");
    int[] years = {14, 15, 16, 17, 18, 19};
    int[] cash = {1111, 11110, 61100, 61000, 60000, 50000};
    int[] due = {(100000 + 700) * 89 / 100, 1335, 2670, 2492, 2136, 1424};
    for (int i = 0; i < years.length; i++) {
      due("CASH from " + years[i], x.floor(years[i], 0), cash[i]);
      due("89 of a hundred from " + years[i], x.floor(years[i], 1), due[i]);
      due("what lacks from " + years[i], x.floor(years[i], 2), Math.max(0, due[i] - cash[i]));
    }
    int[] limits = {0, 1, 2, 99, 100, 101, 102, 999999};
    int[] hundred = {0, 0, 1, 88, 89, 89, 90, 889999};
    for (int i = 0; i < limits.length; i++) {
      due("of LIMIT " + limits[i], Check.told("l19," + limits[i] + ";").floor(19, 1), hundred[i]);
    }
    DeadCap together = Check.told("l16,1;l17,1;l18,1;l19,1;");
    due("cut of all together", together.floor(16, 1), 3);
    DeadCap most = Check.told("l0,999999;l1,999999;l2,999999;l3,999999;");
    due("the most", most.floor(0, 1), 3559996);
    int[] paid = {88, 89, 90};
    int[] lacks = {1, 0, 0};
    for (int i = 0; i < 3; i++) {
      due("CASH " + paid[i], Check.told("m0;l19,100;p19,1,0,0,0:" + paid[i] + ",0;").floor(19, 2), lacks[i]);
    }
  }

  private static void floor() {
    DeadCap x = new DeadCap();
    for (int what = 0; what < 3; what++) {
      int w = what;
      Sentences.argument("floor(?, " + what + ")", y -> (long) x.floor(y, w), 0, 19, -1, y -> w == 0 ? 0L : 89000L * Math.min(4, 20 - y));
    }
    Sentences.argument("floor(0, ?)", what -> (long) x.floor(0, what), 0, 2, -1, what -> what == 0 ? 0L : 356000L);
    Sentences.argument("floor(20, ?)", what -> (long) x.floor(20, what), 0, 2, -1, what -> -1L);
  }

  // ---- promises 47, 48 ----

  private static void market() {
    Sentences.holds("Of an OFFER: 0 WORTH, 1 YEARS, 2 BONUS, 3 BASE, 4 HIT. NONE for others.", EdgesOfAnswers::offer, 47);
    Sentences.holds("HIT of an OFFER: the first of its PARTS (SPREAD over its YEARS, 5 at most) and BASE.", EdgesOfAnswers::hitOfOffer, 47);
    Sentences.holds("BUYS: of all sets of the first 10 OFFERS whose HITS together are ROOM at most (0, if that is less) the one with most WORTH, "
        + "of like ones the fewest, then the least as bits.", EdgesOfAnswers::buys, 48);
    Sentences.holds("BUYS: WORTH (what 0), the set (1), HITS together (2). NONE for others.", EdgesOfAnswers::whatOfBuys, 48);
  }

  private static DeadCap selling(String rules, String offers) {
    DeadCap x = Check.told(rules);
    Check.due("market", Check.market(x, offers) >= 0, true);
    return x;
  }

  private static void offer() {
    DeadCap x = selling("c7;", "5,1,7,100;6,2,9,200;");
    int[][] of = {{5, 1, 7, 100, 107}, {6, 2, 9, 200, 205}};
    for (int i = 0; i < 2; i++) {
      int o = i;
      Sentences.argument("offer(" + i + ", ?)", what -> (long) x.offer(o, what), 0, 4, -1, what -> (long) of[o][what]);
    }
    for (int what = 0; what < 5; what++) {
      int w = what;
      Sentences.argument("offer(?, " + what + ")", i -> (long) x.offer(i, w), 0, 1, -1, i -> (long) of[i][w]);
    }
    DeadCap twelve = selling("c7;", Sentences.times("5,1,7,100;", 12));
    Sentences.argument("offer(?, 0) of 12", i -> (long) twelve.offer(i, 0), 0, 11, -1, i -> 5L);
    due("of none", new DeadCap().offer(0, 0), -1);
  }

  private static void hitOfOffer() {
    int[] first = {0, 99, 50, 33, 27, 23, 23};
    for (int years = 1; years <= 6; years++) {
      DeadCap x = selling("c7;", "5," + years + ",99,100;");
      due(years + " YEARS", x.offer(0, 4), 100 + first[years]);
      x.sign(0);
      due("its HIT as a CONTRACT", x.contract(0, 6), 100 + first[years]);
    }
    int[] bonus = {0, 1, 4, 5, 6};
    int[] part = {0, 1, 4, 1, 2};
    for (int i = 0; i < bonus.length; i++) {
      due("BONUS " + bonus[i], selling("c7;", "5,5," + bonus[i] + ",100;").offer(0, 4), 100 + part[i]);
    }
  }

  private static void buys() {
    for (int n : new int[] {0, 1, 9, 10, 11, 12}) {
      DeadCap x = selling("c7;", Sentences.times("5,1,0,100;", n));
      int many = Math.min(10, n);
      due("the first 10 of " + n, x.buys(1), (1 << many) - 1);
      due("WORTH", x.buys(0), 5 * many);
      due("HITS", x.buys(2), 100 * many);
    }
    int[] limits = {299, 300, 301};
    int[] sets = {1, 3, 3};
    for (int i = 0; i < 3; i++) {
      DeadCap x = selling("l0," + limits[i] + ";", "7,1,0,100;5,1,0,200;");
      due("ROOM " + limits[i], x.buys(1), sets[i]);
    }
    // ROOM of -1, 0, 1: HITS of 0 and 1
    int[] room = {-1, 0, 1};
    int[] bits = {1, 1, 3};
    for (int i = 0; i < 3; i++) {
      DeadCap x = selling("m0;l0," + (100 + room[i]) + ";p0,1,0,0,0:100,0;", "7,1,0,0;5,1,0,1;");
      due("ROOM", x.now(1), room[i]);
      due("ROOM " + room[i], x.buys(1), bits[i]);
    }
    int[] worth = {9, 10, 11};
    int[] best = {3, 4, 4};
    for (int i = 0; i < 3; i++) {
      DeadCap x = selling("l0,200;", "5,1,0,100;5,1,0,100;" + worth[i] + ",1,0,200;");
      due("of like ones the fewest", x.buys(1), best[i]);
      due("WORTH", x.buys(0), Math.max(10, worth[i]));
    }
    DeadCap like = selling("l0,200;", Sentences.times("5,1,0,100;", 4));
    due("then the least as bits", like.buys(1), 3);
    DeadCap dear = selling("l0,200;", "5,1,0,200;5,1,0,100;");
    due("the least as bits, though it is dearer", dear.buys(1), 1);
    due("HITS together", dear.buys(2), 200);
    DeadCap none = selling("l0,99;", "5,1,0,100;");
    Check.text(none, "l0,99;p0,1,0,0,50:100,0;");
    due("a SET ahead of it", none.set(49, 0), 50);
    due("none can be paid", none.buys(1), 0);
    due("WORTH", none.buys(0), 0);
    due("HITS", none.buys(2), 0);
  }

  private static void whatOfBuys() {
    DeadCap x = selling("l0,500;", "7,1,0,100;");
    Sentences.argument("buys(?)", what -> (long) x.buys(what), 0, 2, -1, what -> what == 0 ? 7L : what == 1 ? 1L : 100L);
    DeadCap none = new DeadCap();
    Sentences.argument("buys(?) of none", what -> (long) none.buys(what), 0, 2, -1, what -> 0L);
  }
}
