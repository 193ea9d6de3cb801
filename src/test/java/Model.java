import java.util.ArrayList;
import java.util.Arrays;
import java.util.Comparator;
import java.util.List;
import java.util.function.IntUnaryOperator;

/**
 * The document told a second time, as plainly and as slowly as can be: what a CUT or a TURN would
 * do is found by doing it on a copy, days are gone through one by one, sets are all tried.
 */
final class Model {
  static final class Bonus {
    int year;
    int amount;
    int many;
  }

  static final class Deal {
    int first;
    int years;
    int voids;
    int sure;
    int state;
    int endedIn;
    List<Integer> base = new ArrayList<>();
    List<Integer> roster = new ArrayList<>();
    List<Bonus> bonuses = new ArrayList<>();

    Deal copy() {
      Deal d = new Deal();
      d.first = first;
      d.years = years;
      d.voids = voids;
      d.sure = sure;
      d.state = state;
      d.endedIn = endedIn;
      d.base.addAll(base);
      d.roster.addAll(roster);
      d.bonuses.addAll(bonuses);
      return d;
    }

    void bonus(int year, int amount) {
      Bonus b = new Bonus();
      b.year = year;
      b.amount = amount;
      b.many = Math.min(5, first + years + voids - year);
      bonuses.add(b);
    }

    boolean in(int year) {
      return first <= year && year < first + years;
    }

    int base(int year) {
      return in(year) ? base.get(year - first) : 0;
    }

    int roster(int year) {
      return in(year) ? roster.get(year - first) : 0;
    }

    int parts(int year) {
      int sum = 0;
      for (Bonus b : bonuses) {
        if (year >= b.year && year < b.year + b.many) {
          sum += b.amount / b.many;
          if (year == b.year) {
            sum += b.amount % b.many;
          }
        }
      }
      return sum;
    }

    int parts(int from, int to) {
      int sum = 0;
      for (int y = from; y <= to; y++) {
        sum += parts(y);
      }
      return sum;
    }

    int hit(int year) {
      return base(year) + roster(year) + parts(year);
    }
  }

  record Promise(int deal, int year, int amount, boolean likely, boolean earned) {
  }

  record Offer(int worth, int years, int bonus, int base) {
    int hit() {
      int n = Math.min(5, years);
      return bonus / n + bonus % n + base;
    }
  }

  static final class State {
    int year;
    int day;
    int cutDay = 150;
    int rosterDay = 20;
    int seasonDay = 200;
    int counted = 20;
    int least = 100;
    int[] limit = new int[20];
    int[] dead = new int[20];
    List<Deal> deals = new ArrayList<>();
    List<Promise> promises = new ArrayList<>();
    List<Offer> offers = new ArrayList<>();
    String policy = "";

    static State fresh() {
      State s = new State();
      Arrays.fill(s.limit, 100000);
      return s;
    }

    State copy() {
      State s = new State();
      s.year = year;
      s.day = day;
      s.cutDay = cutDay;
      s.rosterDay = rosterDay;
      s.seasonDay = seasonDay;
      s.counted = counted;
      s.least = least;
      s.limit = limit.clone();
      s.dead = dead.clone();
      for (Deal d : deals) {
        s.deals.add(d.copy());
      }
      s.promises.addAll(promises);
      s.offers.addAll(offers);
      s.policy = policy;
      return s;
    }

    boolean open(int k) {
      return deals.get(k).state == 0;
    }

    List<Integer> opens() {
      List<Integer> list = new ArrayList<>();
      for (int k = 0; k < deals.size(); k++) {
        if (open(k)) {
          list.add(k);
        }
      }
      return list;
    }

    List<Integer> begun() {
      List<Integer> list = opens();
      list.removeIf(k -> deals.get(k).first > year);
      return list;
    }

    List<Integer> ranked() {
      List<Integer> list = opens();
      list.sort(Comparator.comparingInt((Integer k) -> -deals.get(k).hit(year)));
      return list;
    }

    List<Integer> inFull() {
      List<Integer> list = ranked();
      return day < seasonDay && list.size() > counted ? list.subList(0, counted) : list;
    }

    int count() {
      int sum = dead[year];
      List<Integer> full = inFull();
      for (int k : opens()) {
        sum += full.contains(k) ? deals.get(k).hit(year) : deals.get(k).parts(year);
      }
      for (Promise p : promises) {
        sum += open(p.deal) && p.year == year && p.likely ? p.amount : 0;
      }
      return sum;
    }

    int room() {
      return limit[year] - count();
    }

    int allDead() {
      int sum = 0;
      for (int d : dead) {
        sum += d;
      }
      return sum;
    }

    int refusal(int k) {
      if (k < 0 || k >= deals.size()) {
        return 1;
      }
      if (!open(k)) {
        return 2;
      }
      return deals.get(k).first > year ? 3 : 0;
    }

    State cut(int k, boolean traded) {
      Deal d = deals.get(k);
      if (!traded) {
        if (d.first == year) {
          dead[year] += d.base(year) * d.sure / 100;
        }
        if (day >= rosterDay) {
          dead[year] += d.roster(year);
        }
      }
      for (int y = year; y < 20; y++) {
        boolean later = y > year && day >= cutDay;
        dead[later ? year + 1 : year] += d.parts(y);
      }
      d.state = 1;
      d.endedIn = year;
      return this;
    }

    int most(int k) {
      return Math.max(0, deals.get(k).base(year) - least);
    }

    State turn(int k, int x) {
      Deal d = deals.get(k);
      d.base.set(year - d.first, d.base(year) - x);
      d.bonus(year, x);
      return this;
    }

    int saved(int k) {
      return count() - copy().cut(k, false).count();
    }

    int passYear() {
      int more = Math.max(0, room());
      for (Promise p : promises) {
        if (p.year == year && open(p.deal)) {
          more += p.likely && !p.earned ? p.amount : 0;
          more -= !p.likely && p.earned ? p.amount : 0;
        }
      }
      year++;
      day = 0;
      limit[year] = Math.min(999999, Math.max(0, limit[year] + more));
      int many = 0;
      for (int k : opens()) {
        Deal d = deals.get(k);
        if (d.first + d.years == year) {
          d.state = 2;
          d.endedIn = year;
          dead[year] += d.parts(year, 19);
          many++;
        }
      }
      return many;
    }

    /** COUNT of a year ahead: the years go by on a copy, with all HITS counting. */
    int ahead(int to) {
      State s = copy();
      for (int i = year; i < to; i++) {
        s.passYear();
      }
      s.day = 0;
      s.seasonDay = 0;
      return s.count();
    }

    int cash(int k, int y) {
      Deal d = deals.get(k);
      int sum = 0;
      for (Bonus b : d.bonuses) {
        sum += b.year == y ? b.amount : 0;
      }
      boolean paid = d.state == 0 || y < d.endedIn;
      return paid ? sum + d.base(y) + d.roster(y) : sum;
    }

    int allCash(int y) {
      int sum = 0;
      for (int k = 0; k < deals.size(); k++) {
        sum += cash(k, y);
      }
      return sum;
    }
  }

  /** A text whose reading stops with a place. */
  private static final class Stop extends RuntimeException {
    private static final long serialVersionUID = 1L;
    final int place;

    Stop(int place) {
      super(null, null, false, false);
      this.place = place;
    }
  }

  static final int NONE = -1;
  static final int LOW = -1000000000;
  State s = State.fresh();
  State[] kept = new State[2];
  List<State> past = new ArrayList<>();
  StringBuilder tape = new StringBuilder();
  String written = "";
  int fault = NONE;
  int ended = NONE;
  int why = 0;
  private String src = "";
  private int at;

  private static boolean year(int y) {
    return y >= 0 && y <= 19;
  }

  private boolean has(int k) {
    return k >= 0 && k < s.deals.size();
  }

  private void deed() {
    past.add(s.copy());
    if (past.size() > 8) {
      past.remove(0);
    }
  }

  int feed(int a, int b, int c, int d, int e) {
    if (tape.length() + 20 > 500) {
      return NONE;
    }
    for (int w : new int[] {a, b, c, d, e}) {
      for (int sh = 24; sh >= 0; sh -= 8) {
        tape.append((char) (w >> sh & 255));
      }
    }
    return tape.length();
  }

  int end(int n) {
    if (n < 0 || n > tape.length()) {
      return NONE;
    }
    tape.setLength(n);
    return n;
  }

  private void open() {
    src = tape.toString();
    tape.setLength(0);
    at = 0;
    fault = NONE;
  }

  private char ch() {
    return at < src.length() ? src.charAt(at) : (char) 256;
  }

  private void eat(char c) {
    if (ch() != c) {
      throw new Stop(at);
    }
    at++;
  }

  private int num(int lo, int hi) {
    int start = at;
    while (ch() >= '0' && ch() <= '9') {
      if (at - start == 6) {
        throw new Stop(at);
      }
      at++;
    }
    if (at == start) {
      throw new Stop(at);
    }
    int v = Integer.parseInt(src.substring(start, at));
    if (v < lo || v > hi) {
      throw new Stop(start);
    }
    return v;
  }

  private int num(char before, int lo, int hi) {
    eat(before);
    return num(lo, hi);
  }

  int text() {
    open();
    State t = s.copy();
    int items = 0;
    try {
      while (at < src.length()) {
        item(t);
        eat(';');
        items++;
      }
    } catch (Stop stop) {
      fault = stop.place;
      return NONE;
    }
    deed();
    s = t;
    return items;
  }

  private void item(State t) {
    char c = ch();
    if ("ldcmp".indexOf(c) < 0 || c == 'p' && t.deals.size() == 40) {
      throw new Stop(at);
    }
    at++;
    if (c == 'l') {
      int y = num(0, 19);
      t.limit[y] = num(',', 0, 999999);
    } else if (c == 'd') {
      t.cutDay = num(0, 364);
      t.rosterDay = num(',', 0, 364);
      t.seasonDay = num(',', 0, 364);
    } else if (c == 'c') {
      t.counted = num(1, 40);
    } else if (c == 'm') {
      t.least = num(0, 9999);
    } else {
      Deal d = new Deal();
      d.first = num(t.year, 19);
      d.years = num(',', 1, Math.min(6, 20 - d.first));
      d.voids = num(',', 0, Math.min(4, 20 - d.first - d.years));
      d.bonus(d.first, num(',', 0, 99999));
      d.sure = num(',', 0, 100);
      for (int i = 0; i < d.years; i++) {
        d.base.add(num(':', t.least, 99999));
        d.roster.add(num(',', 0, 99999));
      }
      t.deals.add(d);
    }
  }

  private int things;
  private IntUnaryOperator letters = c -> 0;

  private long sum(int depth) {
    long v = part(depth);
    while (ch() == '+' || ch() == '-') {
      boolean plus = ch() == '+';
      at++;
      long w = part(depth);
      v = plus ? v + w : v - w;
    }
    return v;
  }

  private long part(int depth) {
    long v = thing(depth);
    while (ch() == '*') {
      at++;
      v *= thing(depth);
    }
    return v;
  }

  private long thing(int depth) {
    char c = ch();
    if (at < src.length() && things == 40) {
      throw new Stop(at);
    }
    things++;
    if (c == '(') {
      if (depth == 6) {
        throw new Stop(at);
      }
      at++;
      long v = sum(depth + 1);
      eat(')');
      return v;
    }
    if (c < 256 && "hxsybn".indexOf(c) >= 0) {
      at++;
      return letters.applyAsInt(c);
    }
    return num(0, 999999);
  }

  int policy() {
    open();
    things = 0;
    letters = c -> 0;
    if (!src.isEmpty()) {
      try {
        sum(0);
        if (at < src.length()) {
          throw new Stop(at);
        }
      } catch (Stop stop) {
        fault = stop.place;
        return NONE;
      }
    }
    deed();
    s.policy = src;
    return things;
  }

  private long sumFor(int k) {
    State before = s;
    Deal d = s.deals.get(k);
    src = s.policy;
    at = 0;
    things = 0;
    letters = c -> {
      switch (c) {
        case 'h':
          return d.hit(before.year);
        case 'x':
          return before.copy().cut(k, false).allDead() - before.allDead();
        case 's':
          return before.saved(k);
        case 'y':
          return d.first + d.years - before.year;
        case 'b':
          return d.base(before.year);
        default:
          return k;
      }
    };
    return sum(0);
  }

  int market() {
    open();
    List<Offer> list = new ArrayList<>();
    try {
      while (at < src.length()) {
        if (list.size() == 12) {
          throw new Stop(at);
        }
        int worth = num(1, 9999);
        int years = num(',', 1, 6);
        int bonus = num(',', 0, 99999);
        int base = num(',', s.least, 99999);
        eat(';');
        list.add(new Offer(worth, years, bonus, base));
      }
    } catch (Stop stop) {
      fault = stop.place;
      return NONE;
    }
    deed();
    s.offers = list;
    return list.size();
  }

  int acts() {
    open();
    List<int[]> list = new ArrayList<>();
    try {
      while (at < src.length()) {
        char c = ch();
        if (list.size() == 20 || "xtdy".indexOf(c) < 0) {
          throw new Stop(at);
        }
        at++;
        int a = c == 'y' ? 0 : num(0, 999999);
        int b = c == 't' ? num(',', 0, 999999) : 0;
        eat(';');
        list.add(new int[] {c, a, b});
      }
    } catch (Stop stop) {
      fault = stop.place;
      return NONE;
    }
    ended = NONE;
    for (int i = 0; i < list.size(); i++) {
      int[] act = list.get(i);
      int answer = act[0] == 'x' ? cut(act[1]) : act[0] == 't' ? turn(act[1], act[2]) : act[0] == 'd' ? days(act[1]) : year();
      if (answer == NONE) {
        ended = i;
        return i;
      }
    }
    return list.size();
  }

  int is(int what) {
    int[] by = new int[3];
    for (Deal d : s.deals) {
      by[d.state]++;
    }
    int[] all = {s.year, s.day, s.cutDay, s.rosterDay, s.seasonDay, s.counted, s.least, s.deals.size(), by[0], by[1], by[2],
        past.size(), tape.length()};
    return what >= 0 && what < all.length ? all[what] : NONE;
  }

  int limit(int y) {
    return year(y) ? s.limit[y] : NONE;
  }

  int dead(int y) {
    return year(y) ? s.dead[y] : NONE;
  }

  int contract(int k, int what) {
    if (!has(k) || what < 0 || what > 7) {
      return NONE;
    }
    Deal d = s.deals.get(k);
    boolean on = s.begun().contains(k);
    int[] all = {d.first, d.years, d.voids, d.sure, d.state, on ? d.first + d.years - s.year : 0, s.open(k) ? d.hit(s.year) : 0,
        s.inFull().contains(k) ? 1 : 0};
    return all[what];
  }

  int pay(int k, int y, int what) {
    if (!has(k) || !year(y) || what < 0 || what > 3) {
      return NONE;
    }
    Deal d = s.deals.get(k);
    return new int[] {d.base(y), d.roster(y), d.parts(y), d.hit(y)}[what];
  }

  int now(int what) {
    return what == 0 ? s.count() : what == 1 ? s.room() : LOW;
  }

  int would(int k, int what) {
    if (s.refusal(k) != 0 || what < 0 || what > 3) {
      return LOW;
    }
    State t = s.copy().cut(k, false);
    int next = s.year < 19 ? t.dead[s.year + 1] - s.dead[s.year + 1] : 0;
    return new int[] {t.dead[s.year] - s.dead[s.year], next, t.allDead() - s.allDead(), s.saved(k)}[what];
  }

  private int off(int k, boolean traded) {
    why = s.refusal(k);
    if (why != 0) {
      return NONE;
    }
    deed();
    s.cut(k, traded);
    return s.opens().size();
  }

  int cut(int k) {
    return off(k, false);
  }

  int trade(int k) {
    return off(k, true);
  }

  int sign(int i) {
    why = i < 0 || i >= s.offers.size() ? 1 : s.deals.size() == 40 || s.year + s.offers.get(i).years - 1 > 19 ? 6 : 0;
    if (why != 0) {
      return NONE;
    }
    deed();
    Offer o = s.offers.remove(i);
    Deal d = new Deal();
    d.first = s.year;
    d.years = o.years;
    d.bonus(s.year, o.bonus);
    for (int j = 0; j < o.years; j++) {
      d.base.add(o.base);
      d.roster.add(0);
    }
    s.deals.add(d);
    return s.deals.size() - 1;
  }

  int promise(int k, int y, int amount, boolean likely) {
    if (!has(k) || !s.open(k) || !year(y) || y < s.year || amount < 1 || amount > 99999 || s.promises.size() == 24) {
      return NONE;
    }
    deed();
    s.promises.add(new Promise(k, y, amount, likely, false));
    return s.promises.size() - 1;
  }

  int earn(int i) {
    if (i < 0 || i >= s.promises.size()) {
      return NONE;
    }
    Promise p = s.promises.get(i);
    if (p.earned || p.year != s.year || !s.open(p.deal)) {
      return NONE;
    }
    deed();
    s.promises.set(i, new Promise(p.deal, p.year, p.amount, p.likely, true));
    return p.amount;
  }

  private int payRefusal(int k, int x) {
    int r = s.refusal(k);
    if (r == 0) {
      r = x < 1 || x > 99999 ? 4 : s.deals.get(k).base(s.year) - x < s.least ? 5 : 0;
    }
    return r;
  }

  int turn(int k, int x) {
    why = payRefusal(k, x);
    if (why != 0) {
      return NONE;
    }
    deed();
    s.turn(k, x);
    return s.deals.get(k).hit(s.year);
  }

  int lower(int k, int x) {
    why = payRefusal(k, x);
    if (why != 0) {
      return NONE;
    }
    deed();
    Deal d = s.deals.get(k);
    d.base.set(s.year - d.first, d.base(s.year) - x);
    return d.hit(s.year);
  }

  int longer(int k, int n, int base, int bonus) {
    why = s.refusal(k);
    if (why == 0 && (n < 1 || n > 5 || base < 0 || base > 99999 || bonus < 0 || bonus > 99999)) {
      why = 4;
    }
    if (why == 0 && base < s.least) {
      why = 5;
    }
    if (why == 0) {
      Deal d = s.deals.get(k);
      int all = d.years + d.voids + n;
      why = all > 10 || d.first + all - 1 > 19 ? 6 : 0;
    }
    if (why != 0) {
      return NONE;
    }
    deed();
    Deal d = s.deals.get(k);
    d.years += n;
    for (int i = 0; i < n; i++) {
      d.base.add(base);
      d.roster.add(0);
    }
    d.bonus(s.year, bonus);
    return d.first + d.years + d.voids - 1;
  }

  int days(int n) {
    why = n < 1 || (long) s.day + n > 364 ? 4 : 0;
    if (why != 0) {
      return NONE;
    }
    deed();
    s.day += n;
    return s.day;
  }

  int year() {
    why = s.year == 19 ? 7 : 0;
    if (why != 0) {
      return NONE;
    }
    deed();
    return s.passYear();
  }

  long says(int k) {
    return s.policy.isEmpty() || s.refusal(k) != 0 ? -1000000000000L : sumFor(k);
  }

  private static boolean noGoal(int goal) {
    return Math.abs((long) goal) > 999999;
  }

  int byPolicy(int goal) {
    if (s.policy.isEmpty() || noGoal(goal)) {
      return NONE;
    }
    int many = 0;
    while (s.room() < goal) {
      int best = NONE;
      long most = 0;
      for (int k : s.begun()) {
        if (s.saved(k) > 0) {
          long sum = sumFor(k);
          if (best == NONE || sum > most) {
            best = k;
            most = sum;
          }
        }
      }
      if (best == NONE) {
        break;
      }
      if (many++ == 0) {
        deed();
      }
      s.cut(best, false);
    }
    return many;
  }

  int set(int goal, int what) {
    if (noGoal(goal) || what < 0 || what > 1) {
      return NONE;
    }
    List<Integer> who = s.begun();
    who = who.subList(0, Math.min(10, who.size()));
    long best = Long.MAX_VALUE;
    for (int bits = 0; bits < 1 << who.size(); bits++) {
      State t = s.copy();
      for (int i = 0; i < who.size(); i++) {
        if ((bits >> i & 1) == 1) {
          t.cut(who.get(i), false);
        }
      }
      if (t.room() >= goal) {
        long rank = ((long) (t.allDead() - s.allDead()) << 20) + ((long) Integer.bitCount(bits) << 10) + bits;
        best = Math.min(best, rank);
      }
    }
    if (best == Long.MAX_VALUE) {
      return -2;
    }
    return (int) (what == 0 ? best >> 20 : best & 1023);
  }

  int turned(int k, int what) {
    if (s.refusal(k) != 0 || what < 0 || what > 1) {
      return NONE;
    }
    return what == 0 ? s.most(k) : s.count() - s.copy().turn(k, s.most(k)).count();
  }

  int ahead(int y) {
    return year(y) && y > s.year ? s.ahead(y) : NONE;
  }

  int bestDay(int k) {
    if (s.refusal(k) != 0) {
      return NONE;
    }
    State t = s.copy();
    t.day = t.cutDay;
    int then = t.cut(k, false).dead[s.year];
    return s.day < s.cutDay && then < s.copy().cut(k, false).dead[s.year] ? 1 : 0;
  }

  int coins(int k, int what) {
    if (!has(k) || what < 0 || what > 3) {
      return NONE;
    }
    Deal d = s.deals.get(k);
    int all = 0;
    for (Bonus b : d.bonuses) {
      all += b.amount;
    }
    int counted = d.parts(0, d.state == 0 ? s.year : d.endedIn - 1);
    return new int[] {all, counted, d.state == 0 ? 0 : all - counted, d.state == 0 ? all - counted : 0}[what];
  }

  int freeYear(int k) {
    if (!has(k) || !s.open(k)) {
      return NONE;
    }
    Deal d = s.deals.get(k);
    for (int y = s.year; y < 20; y++) {
      if (d.in(y)) {
        State t = s.copy();
        t.year = y;
        t.day = 0;
        if (t.cut(k, false).allDead() - s.allDead() < d.hit(y)) {
          return y;
        }
      }
    }
    return -2;
  }

  int allTurned() {
    State t = s.copy();
    for (int k : s.begun()) {
      t.turn(k, s.most(k));
    }
    return t.room();
  }

  int ranked(int i) {
    List<Integer> list = s.ranked();
    return i >= 0 && i < list.size() ? list.get(i) : NONE;
  }

  int fit(int goal, int what) {
    if (noGoal(goal) || what < 0 || what > 2) {
      return NONE;
    }
    List<Integer> who = s.begun();
    who = who.subList(0, Math.min(6, who.size()));
    int ways = (int) Math.pow(3, who.size());
    int best = Integer.MAX_VALUE;
    int[] sets = {0, 0, 0};
    for (int way = 0; way < ways; way++) {
      State t = s.copy();
      int[] now = {0, 0, 0};
      int rest = way;
      for (int i = 0; i < who.size(); i++) {
        now[rest % 3] |= 1 << i;
        if (rest % 3 == 1) {
          t.cut(who.get(i), false);
        } else if (rest % 3 == 2) {
          t.turn(who.get(i), s.most(who.get(i)));
        }
        rest /= 3;
      }
      int dead = t.allDead() - s.allDead();
      if (t.room() >= goal && dead < best) {
        best = dead;
        sets = now;
      }
    }
    if (best == Integer.MAX_VALUE) {
      return -2;
    }
    return what == 0 ? best : sets[what];
  }

  int piece(int k, int x, int i) {
    if (s.refusal(k) != 0 || x < 1 || x > 99999 || i < 0 || i > 4) {
      return NONE;
    }
    Deal d = s.deals.get(k).copy();
    int y = s.year + i;
    int before = d.parts(y);
    d.bonus(s.year, x);
    return d.parts(y) - before;
  }

  int lastDay(int k, int much) {
    if (s.refusal(k) != 0) {
      return NONE;
    }
    State t = s.copy();
    for (int day = 364; day >= s.day; day--) {
      t.day = day;
      if (t.saved(k) >= much) {
        return day;
      }
    }
    return -2;
  }

  int cash(int k, int y) {
    return has(k) && year(y) ? s.cash(k, y) : NONE;
  }

  int allCash(int y) {
    return year(y) ? s.allCash(y) : NONE;
  }

  int tag(int many) {
    if (many < 1 || many > 40) {
      return NONE;
    }
    List<Integer> list = s.ranked();
    int n = Math.min(many, list.size());
    int sum = 0;
    for (int k : list.subList(0, n)) {
      sum += s.deals.get(k).hit(s.year);
    }
    return n == 0 ? -2 : sum / n;
  }

  int counted(int what) {
    List<Integer> full = s.inFull();
    if (what == 0) {
      return full.stream().mapToInt(k -> s.deals.get(k).hit(s.year)).min().orElse(-2);
    }
    return what == 1 ? s.opens().size() - full.size() : NONE;
  }

  int share(int y) {
    if (!year(y)) {
      return NONE;
    }
    return s.limit[y] == 0 ? -2 : (int) Math.min(1000000000L, 10000L * s.dead[y] / s.limit[y]);
  }

  int dearest(int y) {
    if (!year(y)) {
      return NONE;
    }
    return s.opens().stream().max(Comparator.comparingInt((Integer k) -> s.deals.get(k).hit(y)).thenComparingInt(k -> -k)).orElse(-2);
  }

  int offer(int i, int what) {
    if (i < 0 || i >= s.offers.size() || what < 0 || what > 4) {
      return NONE;
    }
    Offer o = s.offers.get(i);
    return new int[] {o.worth, o.years, o.bonus, o.base, o.hit()}[what];
  }

  int buys(int what) {
    if (what < 0 || what > 2) {
      return NONE;
    }
    int n = Math.min(10, s.offers.size());
    int[] best = {-1, 0, 0};
    int fewest = 99;
    for (int bits = 0; bits < 1 << n; bits++) {
      int worth = 0;
      int hits = 0;
      for (int i = 0; i < n; i++) {
        if ((bits >> i & 1) == 1) {
          worth += s.offers.get(i).worth;
          hits += s.offers.get(i).hit();
        }
      }
      int many = Integer.bitCount(bits);
      if (hits <= Math.max(0, s.room()) && (worth > best[0] || worth == best[0] && many < fewest)) {
        best = new int[] {worth, bits, hits};
        fewest = many;
      }
    }
    return best[what];
  }

  int promised(int i, int what) {
    if (i < 0 || i >= s.promises.size() || what < 0 || what > 4) {
      return NONE;
    }
    Promise p = s.promises.get(i);
    return new int[] {p.deal, p.year, p.amount, p.likely ? 1 : 0, p.earned ? 1 : 0}[what];
  }

  int floor(int y, int what) {
    if (!year(y) || what < 0 || what > 2) {
      return NONE;
    }
    long limits = 0;
    int cash = 0;
    for (int i = y; i < Math.min(20, y + 4); i++) {
      limits += s.limit[i];
      cash += s.allCash(i);
    }
    int due = (int) (limits * 89 / 100);
    return new int[] {cash, due, Math.max(0, due - cash)}[what];
  }

  int over(int n) {
    if (n < 1 || n > 10) {
      return NONE;
    }
    int bits = 0;
    for (int i = 0; i < n; i++) {
      int y = s.year + 1 + i;
      bits |= y <= 19 && s.ahead(y) > s.limit[y] ? 1 << i : 0;
    }
    return bits;
  }

  int undo() {
    if (past.isEmpty()) {
      return NONE;
    }
    s = past.remove(past.size() - 1);
    return past.size();
  }

  boolean keep(int k) {
    if (k != 0 && k != 1) {
      return false;
    }
    kept[k] = s.copy();
    return true;
  }

  boolean restore(int k) {
    if (k != 0 && k != 1 || kept[k] == null) {
      return false;
    }
    deed();
    s = kept[k].copy();
    return true;
  }

  int write() {
    StringBuilder b = new StringBuilder();
    b.append("d" + s.cutDay + "," + s.rosterDay + "," + s.seasonDay + ";c" + s.counted + ";m" + s.least + ";");
    for (int y = 0; y < 20; y++) {
      b.append("l" + y + "," + s.limit[y] + ";");
    }
    written = b.toString();
    return written.length();
  }

  int octet(int k) {
    return k >= 0 && k < written.length() ? written.charAt(k) : NONE;
  }
}
