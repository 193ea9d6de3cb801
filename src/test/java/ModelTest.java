import java.nio.charset.StandardCharsets;
import java.util.Random;

/** Long runs of calls by chance (with fixed seeds), answered by the program and by the model. */
public final class ModelTest {
  private static final int RUNS = 1500;
  private static final int CALLS = 500;
  private static final int[] WILD = {Integer.MIN_VALUE, Integer.MAX_VALUE, -1000000, 1000000, 100000, 99999, -2, -1, 0, 1, 19, 20, 40, 41, 364, 365};

  private final Random r;
  private final DeadCap x = new DeadCap();
  private final Model m = new Model();
  private final StringBuilder log = new StringBuilder();
  /** How fine the money is: coarse money makes HITS that are alike. */
  private final int grain;
  private final int crowd;

  private ModelTest(long seed) {
    r = new Random(seed);
    grain = r.nextInt(3) == 0 ? 1 : r.nextInt(2) == 0 ? 100 : 1000;
    crowd = 1 + r.nextInt(r.nextInt(4) == 0 ? 12 : 4);
  }

  public static void main(String[] args) {
    int runs = args.length > 0 ? Integer.parseInt(args[0]) : RUNS;
    int wrong = 0;
    for (int i = 0; i < runs && wrong < 5; i++) {
      ModelTest t = new ModelTest(7919L * i + 3);
      if (!t.run()) {
        wrong++;
        System.out.println("run " + i + " is not as the model tells:\n" + t.log);
      }
    }
    System.out.println(runs + " runs, " + wrong + " not as the model tells");
    if (wrong != 0) {
      System.exit(1);
    }
  }

  private boolean run() {
    int used = 0;
    for (int i = r.nextInt(3) == 0 ? r.nextInt(20) : 0; i > 0; i--) {
      if (!same("year()", x.year(), m.year())) {
        return false;
      }
    }
    int texts = r.nextInt(8);
    while (used < CALLS) {
      texts--;
      int more = texts >= 0 || r.nextInt(16) == 0 ? giveText(texts >= 0 ? 0 : r.nextInt(8)) : call() ? 1 : -1;
      if (more < 0) {
        return false;
      }
      used += more;
    }
    return true;
  }

  private boolean same(String call, long got, long want) {
    log.append(call).append(" = ").append(got).append('\n');
    if (got != want) {
      log.append("   the model says ").append(want).append('\n');
    }
    return got == want;
  }

  private int any(int n) {
    return r.nextInt(25) == 0 ? WILD[r.nextInt(WILD.length)] : r.nextInt(n);
  }

  private int money(int most) {
    return r.nextInt(most / grain + 1) * grain;
  }

  /** Mostly one of n that there are, else anything. */
  private int one(int n) {
    return n == 0 || r.nextInt(15) == 0 ? any(41) : r.nextInt(n);
  }

  private int k() {
    return one(m.s.deals.size());
  }

  private int year20() {
    return r.nextInt(3) == 0 ? any(20) : Math.min(19, m.s.year + r.nextInt(5));
  }

  private int goal() {
    if (r.nextInt(20) == 0) {
      int edge = 999998 + r.nextInt(3);
      return r.nextBoolean() ? edge : -edge;
    }
    return r.nextInt(20) == 0 ? any(1000) : m.s.room() + r.nextInt(8000) - 2500;
  }

  // ---- texts ----

  private String item() {
    int y = m.s.year;
    switch (r.nextInt(12)) {
      case 0:
        return "l" + year20() + "," + (r.nextInt(6) == 0 ? any(999999) : money(40000));
      case 1:
        return "d" + r.nextInt(365) + "," + r.nextInt(365) + "," + r.nextInt(365);
      case 2:
        return "c" + crowd;
      case 3:
        return "m" + (r.nextInt(4) == 0 ? any(9999) : money(400));
      default:
        break;
    }
    int first = Math.min(19, y + (r.nextInt(3) == 0 ? r.nextInt(4) : 0));
    int years = 1 + r.nextInt(Math.min(6, 20 - first));
    int voids = r.nextInt(Math.min(4, 20 - first - years) + 1);
    StringBuilder b = new StringBuilder("p" + first + "," + years + "," + voids + "," + money(9000) + "," + r.nextInt(101));
    for (int i = 0; i < years; i++) {
      b.append(":").append(m.s.least + money(3000)).append(",").append(r.nextInt(2) == 0 ? 0 : money(700));
    }
    return b.toString();
  }

  private String sum(int depth) {
    StringBuilder b = new StringBuilder();
    int n = 1 + r.nextInt(depth > 3 ? 2 : 4);
    for (int i = 0; i < n; i++) {
      if (i > 0) {
        b.append("+-*".charAt(r.nextInt(3)));
      }
      int kind = r.nextInt(10);
      if (kind < 3 && depth < 7) {
        b.append('(').append(sum(depth + 1)).append(')');
      } else if (kind < 5) {
        b.append(r.nextInt(r.nextBoolean() ? 10 : 1000000));
      } else {
        b.append("hxsybn".charAt(r.nextInt(6)));
      }
    }
    return b.toString();
  }

  private String act() {
    switch (r.nextInt(8)) {
      case 0:
      case 1:
        return "x" + Math.abs(k() % 1000000);
      case 2:
      case 3:
        return "t" + Math.abs(k() % 1000000) + "," + money(1500);
      case 4:
        return "y";
      default:
        return "d" + r.nextInt(80);
    }
  }

  private String spoil(String s) {
    if (r.nextInt(5) != 0 || s.isEmpty()) {
      return s;
    }
    String signs = "0123456789,;:()+-*hxsybnpldcmt z";
    int i = r.nextInt(s.length());
    String c = "" + signs.charAt(r.nextInt(signs.length()));
    switch (r.nextInt(4)) {
      case 0:
        return s.substring(0, i);
      case 1:
        return s.substring(0, i) + c + s.substring(i);
      case 2:
        return s.substring(0, i) + s.substring(i + 1);
      default:
        return s.substring(0, i) + c + s.substring(i + 1);
    }
  }

  private String many(int kind) {
    StringBuilder b = new StringBuilder();
    int n = r.nextInt(8) == 0 ? r.nextInt(30) : r.nextInt(6);
    for (int i = 0; i < n; i++) {
      if (kind == 0) {
        b.append(item());
      } else if (kind == 1) {
        int base = m.s.least + money(2000);
        b.append(1 + r.nextInt(r.nextBoolean() ? 9999 : 5)).append(',').append(1 + r.nextInt(6)).append(',').append(money(5000)).append(',').append(base);
      } else {
        b.append(act());
      }
      b.append(';');
    }
    return b.toString();
  }

  /** How many calls it took, less than 0 if an answer was not as the model's. */
  private int giveText(int kind) {
    String s = kind < 4 ? many(0) : kind == 4 ? many(1) : kind == 5 ? many(2) : r.nextInt(6) == 0 ? "" : sum(0);
    s = spoil(s);
    byte[] bytes = s.substring(0, Math.min(500, s.length())).getBytes(StandardCharsets.ISO_8859_1);
    boolean well = same("end(0)", x.end(0), m.end(0));
    int calls = 3;
    for (int i = 0; i < bytes.length; i += 20) {
      int[] w = new int[5];
      for (int j = 0; j < 20; j++) {
        w[j / 4] = w[j / 4] << 8 | (i + j < bytes.length ? bytes[i + j] & 255 : 0);
      }
      well &= same("feed", x.feed(w[0], w[1], w[2], w[3], w[4]), m.feed(w[0], w[1], w[2], w[3], w[4]));
      calls++;
    }
    well &= same("end(" + bytes.length + ")", x.end(bytes.length), m.end(bytes.length));
    log.append("on ").append(s).append('\n');
    if (kind < 4) {
      well &= same("text()", x.text(), m.text());
    } else if (kind == 4) {
      well &= same("market()", x.market(), m.market());
    } else if (kind == 5) {
      well &= same("acts()", x.acts(), m.acts());
    } else {
      well &= same("policy()", x.policy(), m.policy());
    }
    well &= same("fault()", x.fault(), m.fault);
    return well ? calls : -1;
  }

  // ---- calls ----

  private boolean call() {
    int kind = r.nextInt(3);
    return kind == 0 ? deed() : kind == 1 ? ask() : askMore();
  }

  private boolean deed() {
    int k = k();
    int y = year20();
    int a = any(6);
    int much = r.nextInt(9) == 0 ? any(100000) : money(2500);
    boolean b = r.nextBoolean();
    switch (r.nextInt(19)) {
      case 0:
        return same("cut(" + k + ")", x.cut(k), m.cut(k));
      case 1:
        return same("trade(" + k + ")", x.trade(k), m.trade(k));
      case 2:
        int o = one(m.s.offers.size());
        return same("sign(" + o + ")", x.sign(o), m.sign(o));
      case 3:
      case 4:
      case 5:
        return same("promise(" + k + ", " + y + ", " + much + ", " + b + ")", x.promise(k, y, much, b), m.promise(k, y, much, b));
      case 6:
      case 7:
        int i = one(m.s.promises.size());
        return same("earn(" + i + ")", x.earn(i), m.earn(i));
      case 8:
      case 9:
        return same("turn(" + k + ", " + much + ")", x.turn(k, much), m.turn(k, much));
      case 10:
        int bonus = r.nextInt(9) == 0 ? any(100000) : money(5000);
        return same("longer(" + k + ", " + a + ", " + much + ", " + bonus + ")", x.longer(k, a, much, bonus), m.longer(k, a, much, bonus));
      case 11:
        return same("lower(" + k + ", " + much + ")", x.lower(k, much), m.lower(k, much));
      case 12:
        int days = any(120);
        return same("days(" + days + ")", x.days(days), m.days(days));
      case 13:
        return r.nextInt(2) != 0 ? same("is(0)", x.is(0), m.is(0)) : same("year()", x.year(), m.year());
      case 14:
        int goal = goal();
        return r.nextBoolean() ? same("now(1)", x.now(1), m.now(1)) : same("byPolicy(" + goal + ")", x.byPolicy(goal), m.byPolicy(goal));
      case 15:
        return same("undo()", x.undo(), m.undo());
      case 16:
        int place = any(2);
        return same("keep(" + place + ")", x.keep(place) ? 1 : 0, m.keep(place) ? 1 : 0);
      case 17:
        int from = any(2);
        return r.nextInt(3) != 0 || same("restore(" + from + ")", x.restore(from) ? 1 : 0, m.restore(from) ? 1 : 0) && same("write()", x.write(), m.write());
      default:
        int w = r.nextInt();
        return same("feed(" + w + ")", x.feed(w, ~w, w * 31, 0, -1), m.feed(w, ~w, w * 31, 0, -1)) && same("is(12)", x.is(12), m.is(12));
    }
  }

  private boolean ask() {
    int k = k();
    int y = year20();
    int what = any(5);
    switch (r.nextInt(21)) {
      case 0:
        return same("fault()", x.fault(), m.fault) && same("why()", x.why(), m.why);
      case 1:
        return same("ended()", x.ended(), m.ended);
      case 2:
      case 3:
        int w = any(14);
        return same("is(" + w + ")", x.is(w), m.is(w));
      case 4:
        return same("limit(" + y + ")", x.limit(y), m.limit(y));
      case 5:
      case 6:
        return same("dead(" + y + ")", x.dead(y), m.dead(y));
      case 7:
      case 8:
        int c = any(9);
        return same("contract(" + k + ", " + c + ")", x.contract(k, c), m.contract(k, c));
      case 9:
      case 10:
        return same("pay(" + k + ", " + y + ", " + what + ")", x.pay(k, y, what), m.pay(k, y, what));
      case 11:
        return same("now(" + what + ")", x.now(what), m.now(what));
      case 12:
      case 13:
        return same("would(" + k + ", " + what + ")", x.would(k, what), m.would(k, what));
      case 14:
        return same("says(" + k + ")", x.says(k), m.says(k));
      case 15:
        int goal = goal();
        int bits = any(3);
        return r.nextInt(3) != 0 ? same("is(11)", x.is(11), m.is(11)) : same("set(" + goal + ", " + bits + ")", x.set(goal, bits), m.set(goal, bits));
      case 16:
        int fitGoal = goal();
        int way = any(4);
        return r.nextInt(4) != 0 ? same("is(8)", x.is(8), m.is(8)) : same("fit(" + fitGoal + ", " + way + ")", x.fit(fitGoal, way), m.fit(fitGoal, way));
      case 17:
        return same("turned(" + k + ", " + what + ")", x.turned(k, what), m.turned(k, what));
      case 18:
        return same("ahead(" + y + ")", x.ahead(y), m.ahead(y));
      case 19:
        return same("bestDay(" + k + ")", x.bestDay(k), m.bestDay(k));
      default:
        return same("coins(" + k + ", " + what + ")", x.coins(k, what), m.coins(k, what));
    }
  }

  private boolean askMore() {
    int k = k();
    int y = year20();
    int what = any(6);
    switch (r.nextInt(19)) {
      case 0:
        return same("freeYear(" + k + ")", x.freeYear(k), m.freeYear(k));
      case 1:
        return same("allTurned()", x.allTurned(), m.allTurned());
      case 2:
        int place = one(m.s.opens().size());
        return same("ranked(" + place + ")", x.ranked(place), m.ranked(place));
      case 3:
        int much = any(3000);
        return same("piece(" + k + ", " + much + ", " + what + ")", x.piece(k, much, what), m.piece(k, much, what));
      case 4:
        int least = r.nextInt(5000) - 2500;
        return same("lastDay(" + k + ", " + least + ")", x.lastDay(k, least), m.lastDay(k, least));
      case 5:
        return same("cash(" + k + ", " + y + ")", x.cash(k, y), m.cash(k, y));
      case 6:
        return same("allCash(" + y + ")", x.allCash(y), m.allCash(y));
      case 7:
        int many = any(42);
        return same("tag(" + many + ")", x.tag(many), m.tag(many));
      case 8:
        return same("counted(" + what + ")", x.counted(what), m.counted(what));
      case 9:
        return same("share(" + y + ")", x.share(y), m.share(y));
      case 10:
        return same("dearest(" + y + ")", x.dearest(y), m.dearest(y));
      case 11:
      case 12:
        int i = one(m.s.offers.size());
        return same("offer(" + i + ", " + what + ")", x.offer(i, what), m.offer(i, what));
      case 13:
        return same("buys(" + what + ")", x.buys(what), m.buys(what));
      case 14:
        int p = one(m.s.promises.size());
        return same("promised(" + p + ", " + what + ")", x.promised(p, what), m.promised(p, what));
      case 15:
        return same("floor(" + y + ", " + what + ")", x.floor(y, what), m.floor(y, what));
      case 16:
        int n = any(12);
        return same("over(" + n + ")", x.over(n), m.over(n));
      case 17:
        return same("write()", x.write(), m.write());
      default:
        int b = any(240);
        return same("octet(" + b + ")", x.octet(b), m.octet(b));
    }
  }
}
