/** One part for each promise of the document: ordinary inputs, edges and wrong inputs, worked out by hand. */
public final class PromisesTest {
  private static final int LOW = -1000000000;
  private static final long NO_SUM = -1000000000000L;
  private static final int MIN = Integer.MIN_VALUE;
  private static final int MAX = Integer.MAX_VALUE;
  /**
   * 0: three years, two VOID, PARTS of 1000 in years 0 to 4; HIT 2100 now. 1: one year, 300 in one PART, HIT 700.
   * 2: no bonus, HIT 900. 3: begins in year 1, PARTS of 500. Only the two greatest count in full.
   */
  private static final String FOUR = "c2;p0,3,2,5000,50:1000,100:1500,0:2000,300;p0,1,0,300,100:400,0;"
      + "p0,2,0,0,0:900,0:900,0;p1,2,0,1000,0:800,0:800,50;";

  private PromisesTest() {
  }

  private static void due(String call, long got, long want) {
    Check.due(call, got, want);
  }

  private static void due(String call, boolean got, boolean want) {
    Check.due(call, got, want);
  }

  private static String times(String s, int n) {
    return s.repeat(n);
  }

  public static void main(String[] args) {
    Check.part("1 DeadCap");
    newObject();
    Check.part("2 feed, 3 end");
    tape();
    Check.part("4 text");
    text();
    textFaults();
    Check.part("5 policy");
    policy();
    Check.part("6 market");
    market();
    Check.part("7 acts, 9 ended");
    acts();
    Check.part("8 fault");
    fault();
    Check.part("10 why");
    why();
    Check.part("11 is to 16 now");
    books();
    counting();
    Check.part("17 would to 19 trade");
    would();
    cut();
    trade();
    Check.part("20 sign, 47 offer, 48 buys");
    sign();
    offers();
    Check.part("21 promise, 22 earn, 49 promised");
    promises();
    promisesSettled();
    Check.part("23 turn to 27 year");
    turn();
    longer();
    lower();
    days();
    year();
    Check.part("28 says, 29 byPolicy");
    says();
    byPolicy();
    Check.part("30 set, 38 fit");
    set();
    fit();
    Check.part("31 turned to 37 ranked");
    turned();
    ahead();
    bestDay();
    coins();
    freeYear();
    ranked();
    Check.part("39 piece, 40 lastDay");
    piece();
    lastDay();
    Check.part("41 cash to 46 dearest");
    cash();
    tag();
    counted();
    share();
    dearest();
    Check.part("50 floor, 51 over");
    floor();
    over();
    Check.part("52 undo to 54 restore");
    undo();
    placesUsedAgain();
    deeds();
    keep();
    Check.part("55 write, 56 octet");
    write();
    Check.finish();
  }

  // ---- 1 to 3 ----

  private static void newObject() {
    DeadCap x = new DeadCap();
    int[] first = {0, 0, 150, 20, 200, 20, 100, 0, 0, 0, 0, 0, 0};
    for (int i = 0; i < first.length; i++) {
      due("is(" + i + ")", x.is(i), first[i]);
    }
    for (int y = 0; y < 20; y++) {
      due("limit", x.limit(y), 100000);
      due("dead", x.dead(y), 0);
    }
    due("fault", x.fault(), -1);
    due("ended", x.ended(), -1);
    due("why", x.why(), 0);
    due("octet", x.octet(0), -1);
    due("NONE", DeadCap.NONE, -1);
  }

  private static void tape() {
    DeadCap x = new DeadCap();
    // "l5,777;" comes first, so the highest byte of a word is the first one
    due("feed", x.feed(0x6C352C37, 0x37373B00, 0, 0, -1), 20);
    due("is(12)", x.is(12), 20);
    due("end(21)", x.end(21), -1);
    due("end(-1)", x.end(-1), -1);
    due("is(12)", x.is(12), 20);
    due("end(7)", x.end(7), 7);
    due("is(12)", x.is(12), 7);
    due("end(8)", x.end(8), -1);
    due("text", x.text(), 1);
    due("is(12)", x.is(12), 0);
    due("limit(5)", x.limit(5), 777);
    for (int i = 1; i <= 25; i++) {
      due("feed", x.feed(i, 0, 0, 0, 0), 20 * i);
    }
    due("feed above 500", x.feed(0, 0, 0, 0, 0), -1);
    due("is(12)", x.is(12), 500);
    due("end(481)", x.end(481), 481);
    due("feed to 501", x.feed(0, 0, 0, 0, 0), -1);
    due("end(480)", x.end(480), 480);
    due("feed to 500", x.feed(0, 0, 0, 0, 0), 500);
    due("end(MIN)", x.end(MIN), -1);
    due("end(MAX)", x.end(MAX), -1);
    due("end(0)", x.end(0), 0);
  }

  // ---- 4 to 10 ----

  private static void text() {
    DeadCap x = new DeadCap();
    due("empty", x.text(), 0);
    due("fault", x.fault(), -1);
    due("rules", Check.text(x, "l0,0;l19,999999;d0,364,7;c40;m9999;"), 5);
    due("limit(0)", x.limit(0), 0);
    due("limit(19)", x.limit(19), 999999);
    due("CUT DAY", x.is(2), 0);
    due("ROSTER DAY", x.is(3), 364);
    due("SEASON DAY", x.is(4), 7);
    due("COUNTED", x.is(5), 40);
    due("LEAST PAY", x.is(6), 9999);
    due("zeros ahead", Check.text(x, "m000000;c000001;p000,001,00,07,000100:000009,3;"), 3);
    due("BASE", x.pay(0, 0, 0), 9);
    due("ROSTER BONUS", x.pay(0, 0, 1), 3);
    due("PARTS", x.pay(0, 0, 2), 7);
    due("SURE", x.contract(0, 3), 100);
    due("longest", Check.text(x, "p10,6,4,99999,0:0,0:1,1:2,2:3,3:4,4:99999,99999;"), 1);
    due("its last BASE", x.pay(1, 15, 0), 99999);
    due("its PARTS go over five years", x.pay(1, 14, 2), 19999);
    due("what is left is in the first", x.pay(1, 10, 2), 20003);
    due("not a sixth", x.pay(1, 15, 2), 0);
    due("to 40", Check.text(x, times("p0,1,0,0,0:0,0;", 33)), 33);
    due("to 40", Check.text(x, times("p0,1,0,0,0:0,0;", 5)), 5);
    due("CONTRACTS", x.is(7), 40);
    Check.faultAt("41st p", x, Check.text(x, "c3;p"), 3);
    due("all or nothing", x.is(5), 1);
    due("other items", Check.text(x, "c3;"), 1);
  }

  private static void textFaults() {
    String[] texts = {"z", "l", "l0", "l0,", "l0,5", "l0,5;c", " c1;", "c1; ", "c1;;", "c;", "c1234567;", "c41;", "c0;", "l20,1;", "l0,999999;l1,1000000",
        "d365,1,1;", "d1,365,1;", "d1,1,365;", "d1,1;", "m10000;", "p20,1,", "p0,0,", "p0,7,", "p15,6,", "p0,1,5,", "p16,3,2,", "p0,1,0,100000,", "p0,1,0,0,101:",
        "p0,1,0,0,0;", "p0,1,0,0,0:99,0;", "p0,1,0,0,0:100000,", "p0,1,0,0,0:100,100000;", "p0,1,0,0,0:100,0:100,0;", "p0,2,0,0,0:100,0;",
        "m200;p0,1,0,0,0:199,0;", "p0,1,0,0,0:99,0;m0;", "C1;", "c-1;", "c41", "p0,1,0,0,0:99"};
    int[] places = {0, 1, 2, 3, 4, 6, 0, 3, 3, 1, 7, 1, 1, 1, 19, 1, 3, 5, 4, 1, 1, 3, 3, 4, 5, 6, 7, 9, 10, 11, 11, 15, 16, 16, 16, 11, 0, 1, 1, 11};
    due("each day may be 0", Check.told("d0,0,0;").is(4), 0);
    due("as many places", texts.length, places.length);
    DeadCap x = new DeadCap();
    for (int i = 0; i < texts.length; i++) {
      Check.faultAt(texts[i], x, Check.text(x, texts[i]), places[i]);
      due("nothing came by " + texts[i], x.is(7) + x.is(11), 0);
      due("the tape is empty", x.is(12), 0);
      due("limit(0)", x.limit(0), 100000);
    }
    due("m ahead of p", Check.text(x, "m0;p0,1,0,0,0:0,0;"), 2);
    x.year();
    Check.faultAt("FIRST YEAR below YEAR", x, Check.text(x, "p0,1,0,0,0:100,0;"), 1);
    due("FIRST YEAR is YEAR", Check.text(x, "p1,1,0,0,0:100,0;"), 1);
  }

  private static void policy() {
    DeadCap x = Check.told("p0,1,0,0,0:100,0;");
    due("things", Check.policy(x, "(h+x*2)-n*3"), 6);
    due("it holds", x.says(0), 100);
    String[] texts = {"q", "h*", "(h", "h)", "()", "h h", "hh", "h++h", "-h", "1234567", "((((((((h", "h;", "(h))", "2*-3", "h+"};
    int[] places = {0, 2, 2, 1, 1, 1, 1, 2, 0, 6, 6, 1, 3, 2, 2};
    for (int i = 0; i < texts.length; i++) {
      Check.faultAt(texts[i], x, Check.policy(x, texts[i]), places[i]);
      due("it stays", x.says(0), 100);
      due("the tape is empty", x.is(12), 0);
    }
    due("40 things", Check.policy(x, times("1+", 39) + "1"), 40);
    due("their sum", x.says(0), 40);
    Check.faultAt("41 things", x, Check.policy(x, times("1+", 40) + "1"), 80);
    due("40 things, ( is one", Check.policy(x, times("(1)+", 19) + "1*1"), 40);
    Check.faultAt("41 things, ( is one", x, Check.policy(x, times("(1)+", 20) + "1"), 80);
    due("6 within one another", Check.policy(x, "((((((999999))))))"), 7);
    due("its sum", x.says(0), 999999);
    Check.faultAt("7 within one another", x, Check.policy(x, "(((((((1)))))))"), 6);
    due("one behind the other", Check.policy(x, times("(1)+", 7) + "1"), 15);
    due("empty", Check.policy(x, ""), 0);
    due("none then", x.says(0), NO_SUM);
    due("fault", x.fault(), -1);
  }

  private static void market() {
    DeadCap x = new DeadCap();
    due("two", Check.market(x, "1,1,0,100;9999,6,99999,99999;"), 2);
    due("WORTH", x.offer(1, 0), 9999);
    String[] texts = {"0,", "10000,", "1,0,", "1,7,", "1,1,100000,", "1,1,0,99;", "1,1,0,100000;", "1,1,0;", "1,1,0,100", ",", "1,1,0,100;x", "1234567"};
    int[] places = {0, 0, 2, 2, 4, 6, 6, 5, 9, 0, 10, 6};
    for (int i = 0; i < texts.length; i++) {
      Check.faultAt(texts[i], x, Check.market(x, texts[i]), places[i]);
      due("it stays", x.offer(1, 0), 9999);
    }
    due("12", Check.market(x, times("2,1,0,100;", 12)), 12);
    Check.faultAt("13", x, Check.market(x, times("3,1,0,100;", 12) + "3,1,0,100;"), 120);
    due("it stays", x.offer(11, 0), 2);
    due("none", Check.market(x, ""), 0);
    due("in its place", x.offer(0, 0), -1);
    due("LEAST PAY as it is", Check.text(x, "m50;"), 1);
    due("50", Check.market(x, "1,1,0,50;"), 1);
  }

  private static void acts() {
    DeadCap x = Check.told("p0,2,0,1000,0:900,0:900,0;p0,1,0,0,0:900,0;p5,1,0,0,0:900,0;");
    due("well", Check.acts(x, "x1;t0,100;d7;y;"), 4);
    due("ended", x.ended(), -1);
    due("why", x.why(), 0);
    due("YEAR", x.is(0), 1);
    due("CUT", x.contract(1, 4), 1);
    due("TURN", x.coins(0, 0), 1100);
    due("each is a DEED", x.is(11), 5);
    due("refused", Check.acts(x, "d1;t0,801;y;"), 1);
    due("ended", x.ended(), 1);
    due("why", x.why(), 5);
    due("those ahead of it are done", x.is(1), 1);
    due("those behind it are not", x.is(0), 1);
    due("refused", Check.acts(x, "x999999;"), 0);
    due("ended", x.ended(), 0);
    due("why", x.why(), 1);
    due("not begun", Check.acts(x, "x2;"), 0);
    due("why", x.why(), 3);
    due("0 days", Check.acts(x, "d0;"), 0);
    due("why", x.why(), 4);
    due("a TURN of 0", Check.acts(x, "t0,0;"), 0);
    due("fault", x.fault(), -1);
    due("why", x.why(), 4);
    due("more than money", Check.acts(x, "d1;t0,999999;"), 1);
    due("why", x.why(), 4);
    String[] texts = {"x", "t1;", "w", "x1", "y1;", "y;x;", "t1,2,", "d1234567;", "d1;z"};
    int[] places = {1, 2, 0, 2, 1, 3, 4, 7, 3};
    for (int i = 0; i < texts.length; i++) {
      Check.faultAt(texts[i], x, Check.acts(x, texts[i]), places[i]);
      due("nothing is done", x.is(1), 2);
      due("ended stays", x.ended(), 1);
    }
    due("20", Check.acts(x, times("d1;", 20)), 20);
    due("ended", x.ended(), -1);
    Check.faultAt("21", x, Check.acts(x, times("d1;", 21)), 60);
    due("DAY", x.is(1), 22);
    due("refused", x.cut(77), -1);
    due("none", Check.acts(x, ""), 0);
    due("why stays", x.why(), 1);
    DeadCap sure = Check.told("p0,1,0,0,50:900,0;");
    Check.acts(sure, "x0;");
    due("x is a CUT", sure.dead(0), 450);
  }

  private static void fault() {
    DeadCap x = new DeadCap();
    due("ahead of any", x.fault(), -1);
    due("text", Check.text(x, "c1;c"), -1);
    due("place", x.fault(), 4);
    due("policy", Check.policy(x, "h"), 1);
    due("well", x.fault(), -1);
    due("market", Check.market(x, "1"), -1);
    due("place", x.fault(), 1);
    due("acts", Check.acts(x, "d1;"), 1);
    due("well", x.fault(), -1);
    due("acts", Check.acts(x, "d1;y"), -1);
    due("place", x.fault(), 4);
    due("refused is no FAULT", Check.acts(x, "d0;"), 0);
    due("well", x.fault(), -1);
  }

  private static void why() {
    DeadCap x = Check.told("p0,1,0,0,0:500,0;p1,1,0,0,0:500,0;p0,1,0,0,0:500,0;");
    x.cut(2);
    due("done", x.why(), 0);
    int[] who = {-1, 3, 2, 1};
    int[] reasons = {1, 1, 2, 3};
    for (int i = 0; i < who.length; i++) {
      due("cut", x.cut(who[i]), -1);
      due("why", x.why(), reasons[i]);
      due("days", x.days(1), i + 1);
      due("why", x.why(), 0);
      due("trade", x.trade(who[i]), -1);
      due("why", x.why(), reasons[i]);
      due("turn ahead of its number", x.turn(who[i], 0), -1);
      due("why", x.why(), reasons[i]);
      due("lower ahead of its number", x.lower(who[i], 0), -1);
      due("why", x.why(), reasons[i]);
      due("longer ahead of its number", x.longer(who[i], 0, -1, -1), -1);
      due("why", x.why(), reasons[i]);
    }
    due("days", x.days(0), -1);
    due("why", x.why(), 4);
    x.promise(77, 0, 1, true);
    x.earn(77);
    x.undo();
    x.byPolicy(5);
    due("no others", x.why(), 4);
    due("year", x.year(), 1);
    due("why", x.why(), 0);
    due("sign", x.sign(0), -1);
    due("why", x.why(), 1);
  }

  // ---- 11 to 19 ----

  private static void books() {
    DeadCap x = Check.told(FOUR);
    int[] is = {0, 0, 150, 20, 200, 2, 100, 4, 4, 0, 0, 1, 0, -1};
    for (int i = 0; i < is.length; i++) {
      due("is(" + i + ")", x.is(i), is[i]);
    }
    due("is(-1)", x.is(-1), -1);
    x.cut(2);
    x.days(3);
    x.year();
    is = new int[] {1, 0, 150, 20, 200, 2, 100, 4, 2, 1, 1, 4, 0, -1};
    for (int i = 0; i < is.length; i++) {
      due("is(" + i + ") then", x.is(i), is[i]);
    }
    due("limit(-1)", x.limit(-1), -1);
    due("limit(20)", x.limit(20), -1);
    due("dead(20)", x.dead(20), -1);
    due("dead(-1)", x.dead(-1), -1);
    int[][] of = {{0, 3, 2, 50, 0, 2, 2500, 1, -1}, {0, 1, 0, 100, 2, 0, 0, 0, -1}, {0, 2, 0, 0, 1, 0, 0, 0, -1}, {1, 2, 0, 0, 0, 2, 1300, 1, -1}};
    for (int k = 0; k < 4; k++) {
      for (int what = 0; what < 9; what++) {
        due("contract(" + k + ", " + what + ")", x.contract(k, what), of[k][what]);
      }
    }
    due("contract(4, 0)", x.contract(4, 0), -1);
    due("contract(-1, 0)", x.contract(-1, 0), -1);
    due("contract(0, -1)", x.contract(0, -1), -1);
    int[][] pays = {{1000, 100, 1000, 2100}, {1500, 0, 1000, 2500}, {2000, 300, 1000, 3300}, {0, 0, 1000, 1000}, {0, 0, 1000, 1000}, {0, 0, 0, 0}};
    for (int y = 0; y < 6; y++) {
      for (int what = 0; what < 4; what++) {
        due("pay(0, " + y + ", " + what + ")", x.pay(0, y, what), pays[y][what]);
      }
    }
    due("as if OPEN", x.pay(2, 1, 3), 900);
    due("ahead of its first", x.pay(3, 0, 3), 0);
    due("pay(0, 20, 0)", x.pay(0, 20, 0), -1);
    due("pay(0, -1, 0)", x.pay(0, -1, 0), -1);
    due("pay(4, 0, 0)", x.pay(4, 0, 0), -1);
    due("pay(0, 0, 4)", x.pay(0, 0, 4), -1);
    due("pay(0, 0, -1)", x.pay(0, 0, -1), -1);
  }

  private static void counting() {
    DeadCap x = Check.told(FOUR);
    // 2100 and 900 in full, of 1 its PARTS alone: 300
    due("COUNT", x.now(0), 3300);
    due("ROOM", x.now(1), 96700);
    due("now(2)", x.now(2), LOW);
    due("now(-1)", x.now(-1), LOW);
    due("1 does not count in full", x.contract(1, 7), 0);
    x.days(199);
    due("the day ahead", x.now(0), 3300);
    x.days(1);
    due("from SEASON DAY on all", x.now(0), 3700);
    due("1 counts in full", x.contract(1, 7), 1);
    DeadCap like = Check.told("c1;l0,150;p0,1,0,10,0:190,0;p0,1,0,20,0:180,0;");
    due("of like ones the first", like.now(0), 220);
    due("0", like.contract(0, 7), 1);
    due("1", like.contract(1, 7), 0);
    due("below 0", like.now(1), -70);
    DeadCap roster = Check.told("c1;p0,1,0,0,0:100,200;p0,1,0,0,0:250,0;");
    due("ROSTER BONUS counts for rank", roster.now(0), 300);
  }

  private static void would() {
    DeadCap x = Check.told(FOUR);
    int[][] first = {{5500, 0, 5500, -3800}, {700, 0, 700, -400}, {0, 0, 0, 500}};
    for (int k = 0; k < 3; k++) {
      for (int what = 0; what < 4; what++) {
        due("would(" + k + ", " + what + ")", x.would(k, what), first[k][what]);
      }
    }
    due("not begun", x.would(3, 0), LOW);
    due("no such", x.would(4, 0), LOW);
    due("no such", x.would(-1, 3), LOW);
    due("others", x.would(0, 4), LOW);
    due("others", x.would(0, -1), LOW);
    x.days(20);
    due("from ROSTER DAY on", x.would(0, 0), 5600);
    x.days(129);
    due("the day ahead of CUT DAY", x.would(0, 0), 5600);
    x.days(1);
    due("from CUT DAY on, now", x.would(0, 0), 1600);
    due("the next", x.would(0, 1), 4000);
    due("in all", x.would(0, 2), 5600);
    due("1 moves up", x.would(0, 3), 2100 - 1600 - 400);
    x.year();
    due("BASE behind its first YEAR isn't sure", x.would(0, 2), 4000);
    DeadCap cut = Check.told("p0,1,0,0,33:101,0;");
    due("SURE is cut", cut.would(0, 0), 33);
    cut.cut(0);
    due("not OPEN", cut.would(0, 0), LOW);
    DeadCap last = Check.told("p19,1,0,0,100:500,0;p15,5,0,1003,0" + times(":500,7", 5) + ";");
    Check.acts(last, times("y;", 19));
    last.days(300);
    due("YEAR 19 has no next", last.would(1, 1), 0);
    due("now", last.would(1, 0), 207);
  }

  private static void cut() {
    DeadCap x = Check.told(FOUR);
    x.days(150);
    due("cut", x.cut(0), 3);
    due("dead(0)", x.dead(0), 1600);
    due("dead(1)", x.dead(1), 4000);
    due("its state", x.contract(0, 4), 1);
    due("its HIT", x.contract(0, 6), 0);
    due("its PARTS stay told", x.pay(0, 3, 2), 1000);
    due("COUNT", x.now(0), 1600 + 900 + 700);
    due("again", x.cut(0), -1);
    due("not begun", x.cut(3), -1);
    due("no such", x.cut(4), -1);
    due("no such", x.cut(MIN), -1);
    due("cut", x.cut(2), 2);
    x.year();
    due("DEAD stays", x.dead(0), 1600);
    due("COUNT", x.now(0), 4000 + 1300);
    DeadCap early = Check.told(FOUR);
    due("early", early.cut(0), 3);
    due("all this YEAR", early.dead(0), 5500);
    due("none the next", early.dead(1), 0);
  }

  private static void trade() {
    DeadCap x = Check.told(FOUR);
    x.days(30);
    due("trade", x.trade(0), 3);
    due("PARTS alone", x.dead(0), 5000);
    due("it is CUT", x.contract(0, 4), 1);
    due("CUT ones", x.is(9), 1);
    due("again", x.trade(0), -1);
    due("not begun", x.trade(3), -1);
    due("no such", x.trade(9), -1);
    DeadCap late = Check.told(FOUR);
    late.days(151);
    due("trade", late.trade(0), 3);
    due("now", late.dead(0), 1000);
    due("the next", late.dead(1), 4000);
  }

  // ---- 20 to 22, 47 to 49 ----

  private static void sign() {
    DeadCap x = Check.told("c5;");
    Check.market(x, "10,2,1001,200;20,6,1003,300;30,1,0,400;");
    due("sign", x.sign(1), 0);
    due("it is in THE MARKET no more", x.offer(2, 0), -1);
    due("those behind move up", x.offer(1, 0), 30);
    due("those behind move up", x.offer(1, 1), 1);
    due("those behind move up", x.offer(1, 2), 0);
    due("those behind move up", x.offer(1, 3), 400);
    due("those ahead stay", x.offer(0, 4), 701);
    int[] of = {0, 6, 0, 0, 0, 6, 503, 1};
    for (int what = 0; what < 8; what++) {
      due("contract(0, " + what + ")", x.contract(0, what), of[what]);
    }
    due("BASE each YEAR", x.pay(0, 5, 0), 300);
    due("no ROSTER BONUS", x.pay(0, 5, 1), 0);
    due("five PARTS", x.pay(0, 5, 2), 0);
    due("the fifth", x.pay(0, 4, 2), 200);
    due("no such", x.sign(2), -1);
    due("why", x.why(), 1);
    due("no such", x.sign(-1), -1);
    Check.acts(x, times("y;", 19));
    due("YEARS above 19", x.sign(0), -1);
    due("why", x.why(), 6);
    due("in YEAR 19", x.sign(1), 1);
    due("why", x.why(), 0);
    DeadCap full = Check.told(times("p0,1,0,0,0:100,0;", 20));
    Check.text(full, times("p0,1,0,0,0:100,0;", 20));
    Check.market(full, "1,1,0,100;");
    due("40 CONTRACTS", full.sign(0), -1);
    due("why", full.why(), 6);
    due("no such comes first", full.sign(1), -1);
    due("why", full.why(), 1);
  }

  private static void offers() {
    DeadCap x = Check.told("l0,1000;");
    due("buys of none", x.buys(0) + x.buys(1) + x.buys(2), 0);
    Check.market(x, "50,3,1000,200;60,1,0,500;10,1,0,100;70,6,11,600;");
    int[][] of = {{50, 3, 1000, 200, 534}, {60, 1, 0, 500, 500}, {10, 1, 0, 100, 100}, {70, 6, 11, 600, 603}};
    for (int i = 0; i < 4; i++) {
      for (int what = 0; what < 5; what++) {
        due("offer(" + i + ", " + what + ")", x.offer(i, what), of[i][what]);
      }
    }
    due("offer(0, 5)", x.offer(0, 5), -1);
    due("offer(0, -1)", x.offer(0, -1), -1);
    due("offer(4, 0)", x.offer(4, 0), -1);
    due("offer(-1, 0)", x.offer(-1, 0), -1);
    // 534 and 500 are too much together: 70 and 10 by 703 is the most
    due("WORTH", x.buys(0), 80);
    due("set", x.buys(1), 12);
    due("HITS", x.buys(2), 703);
    Check.text(x, "l0,1034;");
    due("ROOM is enough just so", x.buys(1), 3);
    Check.market(x, "5,1,0,100;5,1,0,100;10,1,0,200;10,1,0,200;");
    Check.text(x, "l0,200;");
    due("fewest, then the least", x.buys(1), 4);
    Check.text(x, "m0;l0,0;");
    Check.market(x, "5,1,0,0;5,1,0,1;");
    due("of ROOM 0", x.buys(1), 1);
    Check.text(x, "p0,1,0,9,0:0,0;");
    due("of ROOM below 0", x.buys(1), 1);
    Check.market(x, times("1,1,0,0;", 12));
    due("the first 10 alone", x.buys(1), 1023);
    DeadCap fresh = Check.told("l0,1000;p0,1,0,0,0:900,0;");
    Check.market(fresh, "5,1,0,100;9,1,0,101;");
    due("ROOM as it is now", fresh.buys(0), 5);
    fresh.days(1);
    due("a set ahead of it", fresh.set(1000, 1), 1);
    Check.market(fresh, "");
    due("does not matter", fresh.buys(1) + fresh.buys(2), 0);
    due("buys(3)", x.buys(3), -1);
    due("buys(-1)", x.buys(-1), -1);
  }

  private static void promises() {
    DeadCap x = Check.told("c1;p0,2,0,0,0:500,0:500,0;p0,1,0,0,0:400,0;p3,1,0,0,0:400,0;");
    due("first", x.promise(0, 0, 1000, true), 0);
    due("LIKELY counts", x.now(0), 1500);
    due("second", x.promise(1, 0, 99999, true), 1);
    due("of one that does not count in full, too", x.now(0), 101499);
    due("not LIKELY", x.promise(0, 0, 7, false), 2);
    due("does not count", x.now(0), 101499);
    due("not begun", x.promise(2, 19, 1, true), 3);
    due("a YEAR behind", x.promise(0, -1, 5, true), -1);
    due("YEAR 20", x.promise(0, 20, 5, true), -1);
    due("amount 0", x.promise(0, 0, 0, true), -1);
    due("amount 100000", x.promise(0, 0, 100000, true), -1);
    due("no such", x.promise(3, 0, 5, true), -1);
    due("no such", x.promise(-1, 0, 5, true), -1);
    int[][] of = {{0, 0, 1000, 1, 0}, {1, 0, 99999, 1, 0}, {0, 0, 7, 0, 0}, {2, 19, 1, 1, 0}};
    for (int i = 0; i < 4; i++) {
      for (int what = 0; what < 5; what++) {
        due("promised(" + i + ", " + what + ")", x.promised(i, what), of[i][what]);
      }
    }
    due("promised(4, 0)", x.promised(4, 0), -1);
    due("promised(-1, 0)", x.promised(-1, 0), -1);
    due("promised(0, 5)", x.promised(0, 5), -1);
    due("promised(0, -1)", x.promised(0, -1), -1);
    due("earn", x.earn(0), 1000);
    due("EARNED", x.promised(0, 4), 1);
    due("it counts all the same", x.now(0), 101499);
    due("already", x.earn(0), -1);
    due("not its YEAR", x.earn(3), -1);
    due("no such", x.earn(4), -1);
    due("no such", x.earn(-1), -1);
    due("SAVED has it, too", x.would(1, 3), 99999);
    x.cut(1);
    due("it counts no more", x.now(0), 1500);
    due("not OPEN", x.earn(1), -1);
    due("not OPEN", x.promise(1, 0, 5, true), -1);
    for (int i = 4; i < 24; i++) {
      due("to 24", x.promise(0, 5, 1, true), i);
    }
    due("there are 24", x.promise(0, 0, 1, true), -1);
    x.year();
    due("a YEAR behind", x.promise(0, 0, 1, true), -1);
    due("not its YEAR", x.earn(2), -1);
  }

  private static void promisesSettled() {
    DeadCap x = Check.told("p0,2,0,0,0:500,0:500,0;p0,1,0,0,0:400,0;");
    x.promise(0, 0, 1000, true);
    x.promise(0, 0, 200, true);
    x.promise(0, 0, 30, false);
    x.promise(1, 0, 4, false);
    x.promise(0, 1, 50000, true);
    x.earn(1);
    x.earn(3);
    due("COUNT", x.now(0), 2100);
    x.year();
    // LIKELY and not EARNED 1000; EARNED and not LIKELY 4, of one that is over by that
    due("LIMIT", x.limit(1), 100000 + 97900 + 1000 - 4);
    due("COUNT", x.now(0), 50500);
    DeadCap gone = Check.told("p0,2,0,0,0:500,0:500,0;");
    gone.promise(0, 0, 1000, true);
    gone.cut(0);
    gone.year();
    due("of one that is CUT nothing", gone.limit(1), 200000);
    DeadCap low = Check.told("l0,0;l1,100;p0,1,0,0,0:500,0;");
    low.promise(0, 0, 1000, false);
    low.earn(0);
    low.year();
    due("0 at least", low.limit(1), 0);
    DeadCap high = Check.told("l0,999999;l1,999999;p0,1,0,0,0:100,0;");
    high.promise(0, 0, 99999, false);
    high.earn(0);
    high.year();
    // 999999 + 999899 - 99999: the bound is behind all of it together
    due("999999 at most", high.limit(1), 999999);
    DeadCap both = Check.told("l0,600;l1,999999;p0,1,0,0,0:100,0;");
    both.promise(0, 0, 700, false);
    both.earn(0);
    both.year();
    due("together", both.limit(1), 999999 + 500 - 700);
  }

  // ---- 23 to 27 ----

  private static void turn() {
    DeadCap x = Check.told(FOUR);
    due("turn", x.turn(0, 903 - 3), 2100 - 900 + 180);
    due("BASE", x.pay(0, 0, 0), 100);
    due("PARTS", x.pay(0, 4, 2), 1180);
    due("below LEAST PAY", x.turn(0, 1), -1);
    due("why", x.why(), 5);
    due("number", x.turn(0, 0), -1);
    due("why", x.why(), 4);
    due("number", x.turn(0, 100000), -1);
    due("why", x.why(), 4);
    due("number", x.turn(0, MIN), -1);
    due("number ahead of BASE", x.turn(0, 99999), -1);
    due("why", x.why(), 5);
    due("what is left is in the first", x.turn(2, 101), 900 - 101 + 51);
    due("the second", x.pay(2, 1, 2), 50);
    x.year();
    due("from YEAR on", x.turn(0, 1003), 2500 + 180 - 1003 + 253);
    due("the last", x.pay(0, 4, 2), 1180 + 250);
    due("all stay", x.coins(0, 0), 5000 + 900 + 1003);
    DeadCap later = Check.told("p2,3,0,0,0:500,0:600,0:700,0;");
    Check.acts(later, "y;y;y;");
    due("in its second YEAR", later.turn(0, 100), 550);
    due("BASE of YEAR", later.pay(0, 3, 0), 500);
    due("the last", later.pay(0, 4, 3), 750);
    DeadCap far = Check.told("p0,6,4,0,0" + times(":1100,0", 6) + ";");
    due("5 at most", far.turn(0, 1000), 300);
    due("the fifth", far.pay(0, 4, 2), 200);
    due("no sixth", far.pay(0, 5, 2), 0);
    Check.text(far, "m1000;");
    due("BASE below it already", far.turn(0, 1), -1);
    due("why", far.why(), 5);
  }

  private static void longer() {
    DeadCap x = Check.told("p0,2,1,300,0:500,70:600,80;p2,2,0,0,0:500,0:500,0;p0,1,0,0,0:500,0;");
    due("longer", x.longer(0, 3, 700, 1001), 5);
    due("YEARS", x.contract(0, 1), 5);
    due("VOID", x.contract(0, 2), 1);
    due("PARTS that are SPREAD stay", x.pay(0, 2, 2), 100 + 200);
    due("the first", x.pay(0, 0, 2), 100 + 201);
    due("behind", x.pay(0, 4, 2), 200);
    due("VOID ones come behind", x.pay(0, 5, 2), 0);
    due("BASE each", x.pay(0, 4, 0), 700);
    due("no ROSTER BONUS", x.pay(0, 4, 1), 0);
    due("old ones stay", x.pay(0, 1, 1), 80);
    due("not begun", x.longer(1, 1, 500, 0), -1);
    due("why", x.why(), 3);
    int[][] bad = {{0, 500, 0}, {6, 500, 0}, {-1, 500, 0}, {1, -1, 0}, {1, 100000, 0}, {1, 500, -1}, {1, 500, 100000}, {MAX, 99, 0}};
    for (int[] b : bad) {
      due("number", x.longer(0, b[0], b[1], b[2]), -1);
      due("why", x.why(), 4);
    }
    due("BASE", x.longer(0, 5, 99, 0), -1);
    due("why, ahead of too many YEARS", x.why(), 5);
    due("11 in all", x.longer(0, 5, 100, 0), -1);
    due("why", x.why(), 6);
    due("10 in all", x.longer(0, 4, 100, 99999), 9);
    x.cut(2);
    due("not OPEN", x.longer(2, 1, 500, 0), -1);
    due("why", x.why(), 2);
    due("no such", x.longer(3, 1, 500, 0), -1);
    due("why", x.why(), 1);
    DeadCap edge = Check.told("m0;p0,1,0,0,0:500,0;");
    due("BASE 0", edge.longer(0, 1, 0, 0), 1);
    due("BASE 99999", edge.longer(0, 5, 99999, 99999), 6);
    due("its BASE", edge.pay(0, 6, 0), 99999);
    DeadCap late = Check.told("p15,2,1,0,0:500,0:500,0;");
    Check.acts(late, times("y;", 15));
    due("VOID ones, too, by 19", late.longer(0, 3, 500, 0), -1);
    due("why", late.why(), 6);
    due("19 just so", late.longer(0, 2, 500, 0), 19);
  }

  private static void lower() {
    DeadCap x = Check.told(FOUR);
    due("lower", x.lower(0, 900), 1200);
    due("no BONUS", x.coins(0, 0), 5000);
    due("BASE", x.pay(0, 0, 0), 100);
    due("LEAST PAY", x.lower(0, 1), -1);
    due("why", x.why(), 5);
    due("number", x.lower(0, 0), -1);
    due("why", x.why(), 4);
    due("number", x.lower(0, 100000), -1);
    due("why", x.why(), 4);
    due("not begun", x.lower(3, 1), -1);
    due("why", x.why(), 3);
    x.cut(2);
    due("not OPEN", x.lower(2, 1), -1);
    due("why", x.why(), 2);
    due("no such", x.lower(-1, 1), -1);
    due("why", x.why(), 1);
    x.year();
    due("of YEAR", x.lower(0, 1), 2499);
  }

  private static void days() {
    DeadCap x = new DeadCap();
    due("days(0)", x.days(0), -1);
    due("why", x.why(), 4);
    due("days(-5)", x.days(-5), -1);
    due("days(365)", x.days(365), -1);
    due("days(MAX)", x.days(MAX), -1);
    due("days(MIN)", x.days(MIN), -1);
    due("days(1)", x.days(1), 1);
    due("days(363)", x.days(363), 364);
    due("days(1)", x.days(1), -1);
    due("days(MAX)", x.days(MAX), -1);
    due("why", x.why(), 4);
    due("DAY", x.is(1), 364);
  }

  private static void year() {
    DeadCap x = Check.told("l0,5000;l1,1000;p0,1,2,900,0:500,0;p0,2,0,0,0:100,0:200,0;p0,1,0,0,0:100,0;");
    x.days(100);
    due("ROOM", x.now(1), 5000 - 1000);
    due("year", x.year(), 2);
    due("YEAR", x.is(0), 1);
    due("DAY", x.is(1), 0);
    due("LIMIT has ROOM", x.limit(1), 5000);
    due("PARTS yet to come are all DEAD", x.dead(1), 600);
    due("none later", x.dead(2), 0);
    due("over", x.contract(0, 4), 2);
    due("COUNT", x.now(0), 800);
    DeadCap under = Check.told("l0,100;l1,70;p0,2,0,0,0:500,0:500,0;");
    due("year", under.year(), 0);
    due("ROOM below 0 does not come", under.limit(1), 70);
    DeadCap much = Check.told("l0,999999;l1,999999;");
    much.year();
    due("999999 at most", much.limit(1), 999999);
    for (int y = 2; y <= 19; y++) {
      due("year", much.year(), 0);
    }
    due("at an end", much.year(), -1);
    due("why", much.why(), 7);
    due("YEAR", much.is(0), 19);
    DeadCap rule = Check.told("c1;p0,2,0,0,0:500,0:500,0;p0,2,0,0,0:400,0:400,0;");
    rule.year();
    due("ROOM as it was ahead of SEASON DAY", rule.limit(1), 199500);
  }

  // ---- 28 to 30, 38 ----

  private static void says() {
    DeadCap x = Check.told(FOUR);
    due("none", x.says(0), NO_SUM);
    String[] texts = {"h", "x", "s", "y", "b", "n", "7", "2+3*4", "2*3+4", "(2+3)*4", "9-3-2", "9-(3-2)", "2-3*4-5", "h-x*(1+n)", "999999*999999*999999"};
    long[] dues = {700, 700, -400, 1, 400, 1, 7, 14, 10, 20, 4, 8, -15, -700, 999999L * 999999L * 999999L};
    for (int i = 0; i < texts.length; i++) {
      Check.policy(x, texts[i]);
      due(texts[i], x.says(1), dues[i]);
    }
    Check.policy(x, "1+2*(3-4*(5+6*(7-8*(9+10*(11-12)))))");
    due("deep", x.says(0), 1 + 2 * (3 - 4 * (5 + 6 * (7 - 8 * (9 + 10 * (11 - 12))))));
    Check.policy(x, "h*(h+(h+(h+(h+(h+(h+(h)))))))");
    due("deeper is a FAULT", x.fault(), 20);
    Check.policy(x, "y*1000000");
    due("7 digits", x.fault(), 8);
    Check.policy(x, "y*1000+n");
    due("0", x.says(0), 3000);
    due("2", x.says(2), 2002);
    due("not begun", x.says(3), NO_SUM);
    due("no such", x.says(4), NO_SUM);
    due("no such", x.says(-1), NO_SUM);
    x.cut(2);
    due("not OPEN", x.says(2), NO_SUM);
    x.year();
    due("YEARS left", x.says(0), 2000);
    due("over", x.says(1), NO_SUM);
  }

  private static void byPolicy() {
    String three = "l0,1000;p0,1,0,0,0:300,0;p0,1,0,0,0:500,0;p0,1,0,0,0:500,0;p0,1,0,900,0:100,0;p1,1,0,0,0:900,0;";
    DeadCap x = Check.told(three);
    due("none", x.byPolicy(0), -1);
    Check.policy(x, "h");
    due("goal", x.byPolicy(-1000000), -1);
    due("goal", x.byPolicy(1000000), -1);
    due("ROOM", x.now(1), -1300);
    due("is enough", x.byPolicy(-1300), 0);
    due("no DEED", x.is(11), 2);
    // the greatest SUM is 1000 of number 3, by which 100 is saved; then 1, the first of like ones
    due("two", x.byPolicy(-1000), 2);
    due("3", x.contract(3, 4), 1);
    due("1", x.contract(1, 4), 1);
    due("2", x.contract(2, 4), 0);
    due("one DEED", x.is(11), 3);
    due("undo", x.undo(), 2);
    due("both are back", x.is(8), 5);
    due("none that has not begun", x.byPolicy(999999), 4);
    due("OPEN", x.is(8), 1);
    due("goal -999999", x.byPolicy(-999999), 0);
    DeadCap dear = Check.told("p0,1,0,500,100:500,0;p0,2,0,500,0:300,0:300,0;");
    Check.policy(dear, "0-h");
    // 0 saves nothing, 1 saves 50: 300 of BASE and 250 of its PART less 500 DEAD
    due("SAVED above 0 alone", dear.byPolicy(999999), 1);
    due("1", dear.contract(1, 4), 1);
    due("DEAD by it", dear.dead(0), 500);
    due("nothing more", dear.byPolicy(999999), 0);
    DeadCap sure = Check.told("p0,1,0,0,50:900,0;p0,1,0,0,99:100,0;");
    Check.policy(sure, "0-9");
    due("SUM below 0, SAVED 1", sure.byPolicy(999999), 2);
    due("they are CUT", sure.dead(0), 450 + 99);
    DeadCap all = Check.told("c40;" + times("p0,1,0,0,0:100,0;", 20));
    Check.text(all, times("p0,1,0,0,0:100,0;", 20));
    Check.policy(all, "n");
    due("all 40", all.byPolicy(100000), 40);
    due("why is not its", dear.why(), 0);
  }

  private static void set() {
    DeadCap x = Check.told(FOUR);
    due("none needed", x.set(96700, 1), 0);
    due("its money", x.set(96700, 0), 0);
    due("2", x.set(96701, 1), 4);
    due("by as much", x.set(97200, 1), 4);
    due("none", x.set(97201, 0), -2);
    due("none", x.set(97201, 1), -2);
    due("none", x.set(999999, 0), -2);
    due("nothing is done", x.now(0), 3300);
    due("all", x.set(-999999, 0), 0);
    noGoals(x);
    due("set(0, 2)", x.set(0, 2), -1);
    due("set(0, -1)", x.set(0, -1), -1);
    x.days(150);
    // 0 leaves 1600 now and 4000 next: 3300 - (1600 + 400 + 300 + 900) = 100
    due("0 saves 100", x.would(0, 3), 100);
    due("dearer", x.set(97201, 0), 5600);
    due("both", x.set(97201, 1), 5);
    DeadCap deep = Check.told("l0,0;" + times("p0,1,0,0,0:99999,0;", 11));
    due("ROOM below each goal", deep.now(1), -1099989);
    due("no goal, though ROOM is as much", deep.set(-1099989, 0), -1);
    due("two must go", deep.set(-999989, 1), 3);
    due("one must go", deep.set(-999990, 1), 1);
    due("one for the least goal", deep.set(-999999, 1), 1);
    noGoals(deep);
    DeadCap like = Check.told("c40;p0,1,0,0,50:200,0;p0,1,0,0,25:400,0;p0,1,0,0,50:200,0;p0,1,0,0,0:100,0;p0,1,0,0,50:200,0;");
    // ROOM 98900: 3 brings 100 for none, 0, 2, 4 each 100 for 100, 1 300 for 100
    due("for none", like.set(99000, 1), 8);
    due("100 of DEAD money", like.set(99100, 0), 100);
    due("of like ones the fewest", like.set(99200, 1), 2);
    due("with the free one", like.set(99300, 1), 10);
    DeadCap free = Check.told("p0,1,0,0,0:100,0;p0,1,0,0,0:100,0;p0,1,0,0,10:300,0;");
    due("least DEAD money ahead of fewest", free.set(99700, 1), 3);
    DeadCap bits = Check.told("p0,1,0,0,50:200,0;p0,1,0,0,50:200,0;p0,1,0,0,50:200,0;");
    due("then the least as bits", bits.set(99600, 1), 3);
    DeadCap many = Check.told(times("p0,1,0,0,0:100,0;", 12));
    due("the first 10", many.set(99800, 1), 1023);
    due("not more", many.set(99801, 1), -2);
    many.cut(0);
    due("the first 10 OPEN ones", many.set(99900, 1), 1023);
  }

  /** A goal is what byPolicy() takes as one. */
  private static void noGoals(DeadCap x) {
    int[] none = {-1000000, 1000000, -16777215, 1073741823, MIN, MAX};
    for (int goal : none) {
      for (int what = 0; what < 3; what++) {
        due("set(" + goal + ", " + what + ")", x.set(goal, what), -1);
        due("fit(" + goal + ", " + what + ")", x.fit(goal, what), -1);
      }
    }
  }

  private static void fit() {
    DeadCap x = Check.told(FOUR);
    due("keep", x.fit(96700, 0), 0);
    due("CUT", x.fit(96700, 1), 0);
    due("TURNED", x.fit(96700, 2), 0);
    // TURN of 0 brings 720 for nothing, ahead of CUT of 2 in the order of ways
    due("TURNED", x.fit(97000, 2), 1);
    due("CUT", x.fit(97000, 1), 0);
    due("money", x.fit(97000, 0), 0);
    due("TURNED", x.fit(97500, 2), 1);
    due("CUT", x.fit(97500, 1), 4);
    due("none", x.fit(99000, 0), -2);
    due("none", x.fit(999999, 2), -2);
    due("all", x.fit(-999999, 0), 0);
    noGoals(x);
    due("others", x.fit(0, 3), -1);
    due("others", x.fit(0, -1), -1);
    // ROOM 99000: a CUT of 0 brings 200 for 200, of 1 540 for 60, a TURN of 1 100 for none
    DeadCap paid = Check.told("m400;p0,1,0,0,50:400,0;p0,2,0,0,10:600,0:600,0;");
    due("TURN of 1", paid.fit(99100, 2), 2);
    due("for none", paid.fit(99100, 0), 0);
    due("CUT of 1", paid.fit(99540, 1), 2);
    due("for 60", paid.fit(99540, 0), 60);
    due("both", paid.fit(99740, 1), 3);
    due("for 260", paid.fit(99740, 0), 260);
    due("none", paid.fit(99741, 0), -2);
    paid.promise(1, 0, 50, true);
    due("LIKELY ones count", paid.fit(99100, 1), 2);
    due("and are gone with it", paid.fit(99540, 1), 2);
    DeadCap first = Check.told("m400;p0,2,0,0,0:600,0:600,0;");
    due("of like ones the first way: CUT", first.fit(99500, 1), 1);
    DeadCap rule = Check.told("c1;p0,2,0,0,100:600,0:600,0;p0,1,0,0,100:500,0;");
    // 0 TURNED counts 100 + 250, so 1 counts in full in its stead: 250 of PARTS and 500
    due("ranks are made anew", rule.fit(99401, 0), -2);
    DeadCap parts = Check.told("c1;m0;p0,2,0,10,100:100,0:100,0;p0,2,0,20,100:200,0:200,0;p0,1,0,0,0:500,0;");
    // 2 counts 500 in full, of 0 and 1 PARTS alone: a TURN makes them more, a CUT of 2 lets 1 move up
    due("ROOM", parts.now(1), 100000 - 515);
    due("2 is CUT", parts.fit(99500, 1), 4);
    due("1 is TURNED, too: its 110 count, 0 stays", parts.fit(99880, 2), 2);
    due("none", parts.fit(99886, 0), -2);
    DeadCap many = Check.told(times("p0,1,0,0,0:100,0;", 7));
    due("the first 6", many.fit(99900, 1), 63);
    due("not more", many.fit(99901, 1), -2);
  }

  // ---- 31 to 37 ----

  private static void turned() {
    DeadCap x = Check.told(FOUR);
    due("0", x.turned(0, 0), 900);
    due("less", x.turned(0, 1), 720);
    due("1 has one PART", x.turned(1, 1), -300);
    due("2", x.turned(2, 0), 800);
    // 2 has 500 then, so 1 counts in full in its stead: 2100 + 700 + 400
    due("2 less", x.turned(2, 1), 3300 - 3200);
    due("not begun", x.turned(3, 0), -1);
    due("no such", x.turned(4, 0), -1);
    due("others", x.turned(0, 2), -1);
    due("others", x.turned(0, -1), -1);
    // 0 counts 1380, 1 700 with 600 of it PARTS, 2 500 with 400 of it PARTS
    due("allTurned", x.allTurned(), 100000 - 1380 - 700 - 400);
    due("nothing is done", x.now(0), 3300);
    DeadCap ranks = Check.told("c1;p0,2,0,0,0:900,0:900,0;p0,1,0,0,0:300,500;");
    // 0 has 100 + 400 then, so 1 counts in full: 800
    due("ranks are made anew", ranks.allTurned(), 100000 - 800 - 400);
    Check.text(x, "m1000;");
    due("none above LEAST PAY", x.turned(2, 0), 0);
    due("nothing less", x.turned(2, 1), 0);
    x.cut(2);
    due("not OPEN", x.turned(2, 0), -1);
    due("allTurned of a new one", new DeadCap().allTurned(), 100000);
  }

  private static void ahead() {
    DeadCap x = Check.told(FOUR);
    due("1", x.ahead(1), 2500 + 900 + 1300);
    due("2", x.ahead(2), 3300 + 1350);
    due("3: 0 is over, its PARTS are DEAD", x.ahead(3), 2000);
    due("4", x.ahead(4), 0);
    due("19", x.ahead(19), 0);
    due("this one", x.ahead(0), -1);
    due("20", x.ahead(20), -1);
    due("-1", x.ahead(-1), -1);
    x.promise(0, 1, 70, true);
    x.promise(0, 1, 7, false);
    x.promise(0, 3, 5000, true);
    x.promise(1, 1, 5000, true);
    due("LIKELY of those not over by then", x.ahead(1), 4770);
    due("of those that are over none", x.ahead(3), 2000);
    x.days(150);
    x.cut(0);
    due("DEAD of it", x.ahead(1), 4000 + 900 + 1300);
    x.year();
    due("behind", x.ahead(1), -1);
  }

  private static void bestDay() {
    DeadCap x = Check.told(FOUR);
    due("0", x.bestDay(0), 1);
    due("1 has all PARTS in this YEAR", x.bestDay(1), 0);
    due("2", x.bestDay(2), 0);
    due("not begun", x.bestDay(3), -1);
    due("no such", x.bestDay(4), -1);
    x.days(149);
    due("the day ahead", x.bestDay(0), 1);
    x.days(1);
    due("CUT DAY", x.bestDay(0), 0);
    // the ROSTER BONUS is due by CUT DAY: 10 of PARTS less, 50 more
    DeadCap roster = Check.told("p0,2,0,20,0:500,50:500,0;p0,2,0,200,0:500,50:500,0;p0,2,0,100,0:500,50:500,0;");
    due("more by ROSTER BONUS", roster.bestDay(0), 0);
    due("less all the same", roster.bestDay(1), 1);
    due("as much", roster.bestDay(2), 0);
    roster.days(20);
    due("the ROSTER BONUS is due already", roster.bestDay(0), 1);
  }

  private static void coins() {
    DeadCap x = Check.told(FOUR);
    x.turn(0, 500);
    int[] now = {5500, 1100, 0, 4400, -1};
    for (int what = 0; what < 5; what++) {
      due("coins(0, " + what + ")", x.coins(0, what), now[what]);
    }
    due("not begun", x.coins(3, 3), 1000);
    due("not begun", x.coins(3, 1), 0);
    x.year();
    due("counted", x.coins(0, 1), 2200);
    due("over", x.coins(1, 1), 300);
    due("over", x.coins(1, 2), 0);
    x.cut(0);
    int[] then = {5500, 1100, 4400, 0, -1};
    for (int what = 0; what < 5; what++) {
      due("coins(0, " + what + ") then", x.coins(0, what), then[what]);
    }
    x.year();
    due("it stays so", x.coins(0, 1), 1100);
    due("no such", x.coins(4, 0), -1);
    due("no such", x.coins(-1, 0), -1);
    due("others", x.coins(0, -1), -1);
    DeadCap voids = Check.told("p0,1,2,900,0:500,0;");
    voids.year();
    due("over with PARTS to come", voids.coins(0, 2), 600);
    due("counted", voids.coins(0, 1), 300);
  }

  private static void freeYear() {
    DeadCap x = Check.told(FOUR);
    due("0", x.freeYear(0), 2);
    due("none", x.freeYear(1), -2);
    due("2", x.freeYear(2), 0);
    due("not begun", x.freeYear(3), 1);
    due("no such", x.freeYear(4), -1);
    x.days(300);
    due("on DAY 0 of it", x.freeYear(2), 0);
    x.year();
    due("from this one on", x.freeYear(2), 1);
    due("over", x.freeYear(1), -1);
    x.cut(2);
    due("not OPEN", x.freeYear(2), -1);
    // year 0: 100 of PARTS and all BASE sure; ROSTER BONUS makes the difference only ahead of its day
    DeadCap roster = Check.told("d150,1,200;p0,1,0,100,100:500,7;");
    due("ROSTER DAY behind DAY 0", roster.freeYear(0), 0);
    Check.text(roster, "d150,0,200;");
    due("ROSTER DAY is DAY 0", roster.freeYear(0), -2);
  }

  private static void ranked() {
    DeadCap x = Check.told("p0,1,0,0,0:500,0;p0,1,0,0,0:700,0;p0,1,0,0,0:500,0;p1,1,0,0,0:900,0;p0,1,0,300,0:400,0;");
    int[] order = {1, 4, 0, 2, 3, -1};
    for (int i = 0; i < order.length; i++) {
      due("ranked(" + i + ")", x.ranked(i), order[i]);
    }
    due("ranked(-1)", x.ranked(-1), -1);
    due("ranked(MAX)", x.ranked(MAX), -1);
    x.cut(4);
    due("OPEN ones", x.ranked(1), 0);
    due("no fifth", x.ranked(4), -1);
  }

  // ---- 39 to 46 ----

  private static void piece() {
    DeadCap x = Check.told(FOUR);
    int[] pieces = {203, 200, 200, 200, 200};
    for (int i = 0; i < 5; i++) {
      due("piece " + i, x.piece(0, 1003, i), pieces[i]);
    }
    due("x 1", x.piece(0, 1, 0), 1);
    due("BASE isn't asked", x.piece(0, 99999, 0), 20003);
    due("behind its YEARS", x.piece(2, 1001, 2), 0);
    due("the first", x.piece(2, 1001, 0), 501);
    due("the second", x.piece(2, 1001, 1), 500);
    due("i -1", x.piece(0, 1, -1), -1);
    due("i 5", x.piece(0, 1, 5), -1);
    due("x 0", x.piece(0, 0, 0), -1);
    due("x 100000", x.piece(0, 100000, 0), -1);
    due("not begun", x.piece(3, 1, 0), -1);
    due("no such", x.piece(4, 1, 0), -1);
    x.year();
    due("from YEAR on", x.piece(0, 1003, 0), 253);
    due("over", x.piece(1, 1, 0), -1);
  }

  private static void lastDay() {
    DeadCap x = Check.told("c1;p0,2,0,1000,0:600,50:600,0;p0,1,0,0,0:300,0;");
    // 0 counts 1150; a CUT: to day 19 1000 DEAD, to 149 1050, then 550; 1 moves up ahead of day 200
    due("150 - 300", x.would(0, 3), -150);
    due("by day 19", x.lastDay(0, -199), 364);
    due("from day 200 on 600", x.lastDay(0, 600), 364);
    due("601", x.lastDay(0, 601), -2);
    due("of 1 300 from day 200 on", x.lastDay(1, 300), 364);
    due("of 1 none is saved ahead of it", x.would(1, 3), 0);
    due("not so much", x.lastDay(1, 301), -2);
    due("no such", x.lastDay(2, 0), -1);
    DeadCap roster = Check.told("p0,1,0,0,0:600,50;");
    due("650 ahead of ROSTER DAY", roster.lastDay(0, 650), 19);
    due("600", roster.lastDay(0, 600), 364);
    roster.days(19);
    due("today", roster.lastDay(0, 601), 19);
    roster.days(1);
    due("gone by", roster.lastDay(0, 601), -2);
    // moved: SEASON DAY 10 ahead of which another moves up, CUT DAY 5
    DeadCap mixed = Check.told("c1;d5,300,10;p0,1,0,0,0:600,50;p0,1,0,0,0:600,0;");
    due("650 from day 10 to 299", mixed.lastDay(0, 650), 299);
    due("MIN", mixed.lastDay(0, MIN), 364);
    due("MAX", mixed.lastDay(0, MAX), -2);
    // CUT DAY: SAVED is more from it on, so the last day is the last
    DeadCap season = Check.told("c1;d0,0,30;p0,1,0,0,0:600,0;p0,1,0,50,0:700,0;");
    due("1 counts 750, 0 moves up to day 29", season.lastDay(1, 100), 364);
    due("its PARTS stay", season.lastDay(1, 700), 364);
    season.cut(1);
    due("not OPEN", season.lastDay(1, 0), -1);
  }

  private static void cash() {
    DeadCap x = Check.told(FOUR);
    x.turn(0, 100);
    due("BONUSES in their YEAR, BASE, ROSTER BONUS", x.cash(0, 0), 5000 + 100 + 900 + 100);
    due("1", x.cash(0, 1), 1500);
    due("2", x.cash(0, 2), 2300);
    due("VOID", x.cash(0, 3), 0);
    due("of 3", x.cash(3, 1), 1800);
    due("ahead of its first", x.cash(3, 0), 0);
    due("all", x.allCash(0), 6100 + 700 + 900);
    due("all", x.allCash(1), 1500 + 900 + 1800);
    due("20", x.cash(0, 20), -1);
    due("-1", x.cash(0, -1), -1);
    due("no such", x.cash(4, 0), -1);
    due("all of 20", x.allCash(20), -1);
    due("all of -1", x.allCash(-1), -1);
    x.year();
    x.turn(0, 40);
    x.cut(0);
    due("of the YEARS ahead all", x.cash(0, 0), 6100);
    due("of that YEAR the BONUS alone", x.cash(0, 1), 40);
    due("behind none", x.cash(0, 2), 0);
    due("over", x.cash(1, 0), 700);
  }

  private static void tag() {
    DeadCap x = Check.told("p0,1,0,0,0:500,0;p0,1,0,0,0:701,0;p0,1,0,0,0:200,0;");
    due("1", x.tag(1), 701);
    due("2", x.tag(2), 600);
    due("3", x.tag(3), 467);
    due("of all", x.tag(40), 467);
    due("0", x.tag(0), -1);
    due("41", x.tag(41), -1);
    due("-1", x.tag(-1), -1);
    due("none is OPEN", new DeadCap().tag(40), -2);
    due("others ahead of that", new DeadCap().tag(41), -1);
  }

  private static void counted() {
    DeadCap x = Check.told(FOUR);
    due("the least", x.counted(0), 900);
    due("how many don't", x.counted(1), 2);
    due("of one", Check.told("p0,1,0,0,0:500,0;").counted(0), 500);
    due("others", x.counted(2), -1);
    due("others", x.counted(-1), -1);
    x.days(200);
    due("all do", x.counted(0), 0);
    due("none don't", x.counted(1), 0);
    due("none does", new DeadCap().counted(0), -2);
    due("of none", new DeadCap().counted(1), 0);
  }

  private static void share() {
    DeadCap x = Check.told("l0,3000;l1,0;l2,1;p0,3,0,2000,0:500,0:500,0:500,0;");
    x.cut(0);
    due("2000 of 3000", x.share(0), 6666);
    due("LIMIT 0", x.share(1), -2);
    due("none", x.share(2), 0);
    due("20", x.share(20), -1);
    due("-1", x.share(-1), -1);
    DeadCap most = Check.told("l0,1;p0,1,0,99999,0:100,0;p0,1,0,1,0:100,0;p0,1,0,1,0:100,0;");
    most.cut(0);
    due("below the most", most.share(0), 999990000);
    most.cut(1);
    due("just so", most.share(0), 1000000000);
    most.cut(2);
    due("at most", most.share(0), 1000000000);
  }

  private static void dearest() {
    DeadCap x = Check.told(FOUR);
    due("0", x.dearest(0), 0);
    due("1", x.dearest(1), 0);
    due("none has a HIT: the first", x.dearest(19), 0);
    due("20", x.dearest(20), -1);
    due("-1", x.dearest(-1), -1);
    x.cut(0);
    due("of 0", x.dearest(0), 2);
    due("of 1", x.dearest(1), 3);
    due("none is OPEN", new DeadCap().dearest(0), -2);
    DeadCap like = Check.told("p0,1,0,0,0:500,0;p0,1,0,0,0:600,0;p0,1,0,0,0:600,0;");
    due("of like ones the first", like.dearest(0), 1);
  }

  // ---- 50 to 56 ----

  private static void floor() {
    DeadCap x = Check.told(FOUR + "l0,1001;l1,1000;l2,1000;l3,10000;l17,101;l18,100;l19,100;");
    due("CASH", x.floor(0, 0), 6100 + 300 - 0 + 400 + 900 + 1500 + 900 + 1800 + 2300 + 850);
    due("89 of a hundred", x.floor(0, 1), 11570);
    due("none lacks", x.floor(0, 2), 0);
    due("to 19", x.floor(17, 1), 267);
    due("all lacks", x.floor(17, 2), 267);
    due("CASH", x.floor(2, 0), 2300 + 850);
    due("what lacks", x.floor(2, 2), (1000 + 10000 + 100000 + 100000) * 89 / 100 - 3150);
    due("20", x.floor(20, 0), -1);
    due("-1", x.floor(-1, 0), -1);
    due("others", x.floor(0, 3), -1);
    due("others", x.floor(0, -1), -1);
    x.year();
    due("a YEAR behind", x.floor(0, 0), 15050);
  }

  private static void over() {
    DeadCap x = Check.told(FOUR + "l1,4699;l2,4650;l3,1999;");
    due("1", x.over(1), 1);
    due("2: as much is not above", x.over(2), 1);
    due("3", x.over(3), 5);
    due("10", x.over(10), 5);
    due("0", x.over(0), -1);
    due("11", x.over(11), -1);
    Check.acts(x, times("y;", 19));
    due("to 19", x.over(10), 0);
  }

  private static void undo() {
    DeadCap x = new DeadCap();
    due("none", x.undo(), -1);
    for (int i = 1; i <= 10; i++) {
      due("days", x.days(1), i);
      due("DEEDS", x.is(11), Math.min(8, i));
    }
    for (int i = 7; i >= 0; i--) {
      due("undo", x.undo(), i);
      due("DAY", x.is(1), i + 2);
    }
    due("none", x.undo(), -1);
    due("DAY", x.is(1), 2);
    x.days(5);
    due("a refused one is no DEED", x.days(0), -1);
    due("undo", x.undo(), 0);
    due("DAY", x.is(1), 2);
  }

  /** What was taken back leaves nothing behind in what comes in its place. */
  private static void placesUsedAgain() {
    DeadCap x = new DeadCap();
    DeadCap signed = new DeadCap();
    Check.market(signed, "1,1,0,100;");
    signed.keep(0);
    Check.text(signed, "p0,1,0,0,0:100,0;");
    signed.cut(0);
    signed.restore(0);
    due("sign", signed.sign(0), 0);
    due("it is OPEN", signed.contract(0, 4), 0);
    DeadCap two = Check.told("p0,1,0,0,0:100,0;p0,1,0,0,0:100,0;");
    two.promise(1, 0, 5, true);
    two.keep(1);
    two.undo();
    two.promise(0, 0, 5, true);
    two.restore(1);
    due("its CONTRACT", two.promised(0, 0), 1);
    for (int i = 0; i < 3; i++) {
      Check.text(x, "p0,6,4,1000,9" + times(":900,90", 6) + ";");
      x.promise(0, 0, 5, true);
      x.earn(0);
      x.keep(0);
      x.cut(0);
      x.undo();
      x.undo();
      x.undo();
      due("promise", x.promise(0, 1, 6, false), 0);
      due("not EARNED", x.promised(0, 4), 0);
      x.restore(0);
      due("promised", x.promised(0, 1), 0);
      due("promised", x.promised(0, 2), 5);
      due("promised", x.promised(0, 3), 1);
      due("promised", x.promised(0, 4), 1);
      x.cut(0);
      for (int j = 0; j < 6; j++) {
        x.undo();
      }
      due("none", x.is(7), 0);
      due("one", Check.text(x, "p0,1,0,10,0:500,0;"), 1);
      due("it is OPEN", x.contract(0, 4), 0);
      due("longer", x.longer(0, 5, 100, 0), 5);
      due("its pay", x.pay(0, 5, 3), 100);
      due("its CASH", x.cash(0, 0), 510);
      due("its BONUSES", x.coins(0, 0), 10);
      x.undo();
      x.undo();
      due("DEEDS", x.is(11), 0);
    }
  }

  /** Each kind of DEED is done once and taken back. */
  private static void deeds() {
    DeadCap x = Check.told("p0,2,0,1000,0:900,0:900,70;p0,1,1,100,0:900,0;");
    due("policy", Check.policy(x, "h"), 1);
    due("market", Check.market(x, "1,1,0,100;"), 1);
    due("undo market", x.undo(), 2);
    due("offer", x.offer(0, 0), -1);
    due("undo policy", x.undo(), 1);
    due("says", x.says(0), NO_SUM);
    Check.policy(x, "h");
    Check.market(x, "1,1,0,100;");
    for (int i = 0; i < 11; i++) {
      String before = shown(x);
      deed(x, i);
      due("DEED " + i + " changed something", shown(x).equals(before) ? 1 : 0, 0);
      due("undo DEED " + i, x.undo(), 3);
      due("all is as ahead of DEED " + i, shown(x).equals(before) ? 1 : 0, 1);
    }
    Check.acts(x, "d1;t0,5;x1;");
    due("each ACT", x.is(11), 6);
    x.undo();
    due("x1 is back", x.contract(1, 4), 0);
    due("t0,5 stands", x.coins(0, 0), 1005);
    x.undo();
    x.undo();
    due("undo text", x.undo() + x.undo() + x.undo(), 2 + 1);
    due("no CONTRACTS", x.is(7), 0);
    due("why stays", x.why(), 0);
  }

  private static void deed(DeadCap x, int i) {
    switch (i) {
      case 0:
        due("cut", x.cut(0), 1);
        break;
      case 1:
        due("trade", x.trade(0), 1);
        break;
      case 2:
        due("turn", x.turn(0, 100), 1350);
        break;
      case 3:
        due("lower", x.lower(0, 100), 1300);
        break;
      case 4:
        due("longer", x.longer(0, 1, 100, 100), 2);
        break;
      case 5:
        due("sign", x.sign(0), 2);
        break;
      case 6:
        due("promise", x.promise(0, 0, 5, true), 0);
        break;
      case 7:
        due("days", x.days(9), 9);
        break;
      case 8:
        due("year", x.year(), 1);
        break;
      case 9:
        due("byPolicy", x.byPolicy(98000), 1);
        break;
      default:
        due("text", Check.text(x, "m7;c1;l3,7;d1,2,3;p0,1,0,0,0:7,0;"), 5);
        break;
    }
  }

  /** All that can be asked of the books, as a text. */
  private static String shown(DeadCap x) {
    StringBuilder b = new StringBuilder();
    for (int i = 0; i < 11; i++) {
      b.append(x.is(i)).append(' ');
    }
    for (int y = 0; y < 20; y++) {
      b.append(x.limit(y)).append(' ').append(x.dead(y)).append(' ').append(x.allCash(y)).append(' ');
    }
    for (int k = 0; k < x.is(7); k++) {
      for (int y = 0; y < 20; y++) {
        b.append(x.pay(k, y, 0)).append(' ').append(x.pay(k, y, 1)).append(' ').append(x.pay(k, y, 2)).append(' ').append(x.cash(k, y)).append(' ');
      }
      for (int what = 0; what < 8; what++) {
        b.append(x.contract(k, what)).append(' ');
      }
      b.append(x.coins(k, 0)).append(' ').append(x.coins(k, 2)).append(' ').append(x.says(k)).append(' ');
    }
    for (int i = 0; i < 24; i++) {
      b.append(x.promised(i, 0)).append(' ').append(x.promised(i, 2)).append(' ').append(x.promised(i, 4)).append(' ');
    }
    for (int i = 0; i < 12; i++) {
      b.append(x.offer(i, 0)).append(' ').append(x.offer(i, 4)).append(' ');
    }
    return b.append(x.now(0)).toString();
  }

  private static void keep() {
    DeadCap x = Check.told("p0,2,0,1000,0:900,0:900,70;p0,1,1,100,0:900,0;");
    Check.policy(x, "h");
    Check.market(x, "1,1,0,100;");
    x.promise(0, 0, 77, true);
    x.earn(0);
    due("nothing is KEPT", x.restore(0), false);
    due("keep(2)", x.keep(2), false);
    due("keep(-1)", x.keep(-1), false);
    String all = shown(x);
    due("keep(0)", x.keep(0), true);
    due("no DEED", x.is(11), 5);
    due("nothing is KEPT there", x.restore(1), false);
    x.sign(0);
    x.cut(0);
    x.year();
    Check.policy(x, "");
    Check.text(x, "m7;c1;l3,7;d1,2,3;");
    String other = shown(x);
    due("keep(1)", x.keep(1), true);
    due("restore(0)", x.restore(0), true);
    due("all is as KEPT", shown(x).equals(all), true);
    due("a DEED", x.is(11), 8);
    x.days(4);
    due("restore(0) again", x.restore(0), true);
    due("all is as KEPT", shown(x).equals(all), true);
    x.undo();
    due("DAY", x.is(1), 4);
    x.undo();
    due("undo", x.undo(), 5);
    due("the restore is taken back", shown(x).equals(other), true);
    x.undo();
    due("restore(1)", x.restore(1), true);
    due("all is as KEPT", shown(x).equals(other), true);
    due("restore(2)", x.restore(2), false);
    due("restore(-1)", x.restore(-1), false);
    x.restore(0);
    x.cut(1);
    due("keep(0) anew", x.keep(0), true);
    x.undo();
    x.restore(0);
    due("the new one", x.contract(1, 4), 1);
  }

  private static void write() {
    DeadCap x = new DeadCap();
    due("ahead of any", x.octet(0), -1);
    due("as it is at first", x.write(), 231);
    Check.text(x, "d0,364,99;c7;m0;l0,0;l9,10;l10,999999;l19,123456;");
    due("it stays as written", x.octet(1), '1');
    StringBuilder want = new StringBuilder("d0,364,99;c7;m0;l0,0;");
    for (int y = 1; y < 20; y++) {
      want.append('l').append(y).append(',').append(y == 9 ? 10 : y == 10 ? 999999 : y == 19 ? 123456 : 100000).append(';');
    }
    due("write", x.write(), want.length());
    for (int i = 0; i < want.length(); i++) {
      due("octet(" + i + ")", x.octet(i), want.charAt(i));
    }
    due("behind it", x.octet(want.length()), -1);
    due("octet(-1)", x.octet(-1), -1);
    due("octet(MAX)", x.octet(MAX), -1);
    due("no DEED", x.is(11), 1);
    DeadCap again = new DeadCap();
    due("it can be read", Check.text(again, want.toString()), 23);
    due("limit", again.limit(19), 123456);
  }
}
