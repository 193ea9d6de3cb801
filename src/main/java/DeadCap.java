/**
 * Dead cap accounting, as ../shared/DOC.md tells it. The words of the comments are the document's:
 * a HIT is what a contract counts in a year, PARTS are the pieces of its bonuses that are spread.
 */
public final class DeadCap {
  public static final int NONE = -1;

  private static final int NO_WAY = -2;
  private static final int FAR_BELOW = -1000000000;
  private static final long NO_SUM = -1000000000000L;

  private static final int TAPE_BYTES = 500;
  private static final int FEED_BYTES = 20;
  private static final int WRITTEN_BYTES = 256;
  private static final int MANY_YEARS = 20;
  private static final int LAST_YEAR = 19;
  private static final int LAST_DAY = 364;
  private static final int MOST_CONTRACTS = 40;
  private static final int MOST_MONEY = 99999;
  private static final int MOST_LIMIT = 999999;
  private static final int MOST_NUMBER = 999999;
  private static final int MOST_GOAL = 999999;
  private static final int MOST_MORE_YEARS = 5;
  private static final int KEPT_PLACES = 2;

  private static final int OPEN = 0;
  private static final int CUT = 1;
  private static final int OVER = 2;

  private static final int DONE = 0;
  private static final int NO_SUCH = 1;
  private static final int NOT_OPEN = 2;
  private static final int NOT_BEGUN = 3;
  private static final int BAD_NUMBER = 4;
  private static final int BELOW_LEAST_PAY = 5;
  private static final int TOO_MANY_YEARS = 6;
  private static final int YEARS_AT_END = 7;

  private Books books = new Books();
  /** Texts are read into this one, so that a FAULT leaves the books untouched. */
  private Books draft = new Books();
  private final Books[] kept = new Books[KEPT_PLACES];
  private final History history = new History();
  private final Reader reader = new Reader();
  private final Bytes written = new Bytes(WRITTEN_BYTES);
  private final Acts acts = new Acts();
  private final Tally tally = new Tally();
  private final Chooser chooser = new Chooser();
  private int fault = NONE;
  private int ended = NONE;
  private int why = DONE;

  public DeadCap() {
  }

  // ---- texts ----

  public int feed(int a, int b, int c, int d, int e) {
    Bytes tape = reader.tape;
    if (tape.size > TAPE_BYTES - FEED_BYTES) {
      return NONE;
    }
    tape.addWord(a);
    tape.addWord(b);
    tape.addWord(c);
    tape.addWord(d);
    tape.addWord(e);
    return tape.size;
  }

  public int end(int n) {
    if (n < 0 || n > reader.tape.size) {
      return NONE;
    }
    reader.tape.size = n;
    return n;
  }

  public int text() {
    draft.copyFrom(books);
    reader.begin();
    return takeDraft(reader.readItems(draft));
  }

  public int policy() {
    draft.copyFrom(books);
    reader.begin();
    return takeDraft(draft.formula.read(reader));
  }

  public int market() {
    draft.copyFrom(books);
    reader.begin();
    return takeDraft(draft.offers.read(reader, draft.leastPay));
  }

  public int acts() {
    reader.begin();
    acts.read(reader);
    fault = reader.finish();
    if (fault != NONE) {
      return NONE;
    }
    ended = NONE;
    for (int i = 0; i < acts.size; i++) {
      if (!perform(i)) {
        ended = i;
        return i;
      }
    }
    return acts.size;
  }

  public int fault() {
    return fault;
  }

  public int ended() {
    return ended;
  }

  public int why() {
    return why;
  }

  // ---- what stands in the books ----

  public int is(int what) {
    switch (what) {
      case 0:
        return books.year;
      case 1:
        return books.day;
      case 2:
        return books.cutDay;
      case 3:
        return books.rosterDay;
      case 4:
        return books.seasonDay;
      case 5:
        return books.counted;
      case 6:
        return books.leastPay;
      case 7:
        return books.size;
      case 8:
        return books.manyThatAre(OPEN);
      case 9:
        return books.manyThatAre(CUT);
      case 10:
        return books.manyThatAre(OVER);
      case 11:
        return history.size;
      case 12:
        return reader.tape.size;
      default:
        return NONE;
    }
  }

  public int limit(int year) {
    return isYear(year) ? books.limits[year] : NONE;
  }

  public int dead(int year) {
    return isYear(year) ? books.deads[year] : NONE;
  }

  public int contract(int k, int what) {
    Contract c = books.find(k);
    if (c == null) {
      return NONE;
    }
    switch (what) {
      case 0:
        return c.first;
      case 1:
        return c.years;
      case 2:
        return c.voids;
      case 3:
        return c.sure;
      case 4:
        return c.state;
      case 5:
        return c.yearsLeft(books.year);
      case 6:
        return c.isOpen() ? c.hit(books.year) : 0;
      case 7:
        return countsInFull(k) ? 1 : 0;
      default:
        return NONE;
    }
  }

  public int pay(int k, int year, int what) {
    Contract c = books.find(k);
    if (c == null || !isYear(year)) {
      return NONE;
    }
    switch (what) {
      case 0:
        return c.basePay(year);
      case 1:
        return c.rosterBonus(year);
      case 2:
        return c.partsIn(year);
      case 3:
        return c.hit(year);
      default:
        return NONE;
    }
  }

  public int now(int what) {
    tally.load(books);
    switch (what) {
      case 0:
        return tally.count(books, books.day);
      case 1:
        return tally.room(books);
      default:
        return FAR_BELOW;
    }
  }

  public int would(int k, int what) {
    Contract c = books.findBegun(k);
    if (c == null) {
      return FAR_BELOW;
    }
    switch (what) {
      case 0:
        return books.deadNow(c, books.day);
      case 1:
        return books.deadNext(c, books.day);
      case 2:
        return books.deadInAll(c);
      case 3:
        tally.load(books);
        return tally.saved(books, k, books.day);
      default:
        return FAR_BELOW;
    }
  }

  // ---- acts ----

  public int cut(int k) {
    return letGo(k, false);
  }

  public int trade(int k) {
    return letGo(k, true);
  }

  public int sign(int i) {
    why = books.signRefusal(i);
    if (why != DONE) {
      return NONE;
    }
    history.push(books);
    return books.takeOffer(i);
  }

  public int promise(int k, int year, int amount, boolean likely) {
    Contract c = books.find(k);
    if (c == null || !c.isOpen() || !isYear(year) || year < books.year) {
      return NONE;
    }
    if (amount < 1 || amount > MOST_MONEY || books.promises.isFull()) {
      return NONE;
    }
    history.push(books);
    return books.promises.add(k, year, amount, likely);
  }

  public int earn(int i) {
    Promises all = books.promises;
    if (!all.has(i) || all.earned[i] || all.year[i] != books.year) {
      return NONE;
    }
    Contract c = books.find(all.contract[i]);
    if (c == null || !c.isOpen()) {
      return NONE;
    }
    history.push(books);
    all.earned[i] = true;
    return all.amount[i];
  }

  public int turn(int k, int x) {
    why = books.payRefusal(k, x);
    Contract c = books.find(k);
    if (why != DONE || c == null) {
      return NONE;
    }
    history.push(books);
    c.takeFromBase(books.year, x);
    c.spread(books.year, x);
    return c.hit(books.year);
  }

  public int longer(int k, int n, int base, int bonus) {
    why = books.longerRefusal(k, n, base, bonus);
    Contract c = books.find(k);
    if (why != DONE || c == null) {
      return NONE;
    }
    history.push(books);
    c.addYears(n, base);
    c.spread(books.year, bonus);
    return c.lastYear();
  }

  public int lower(int k, int x) {
    why = books.payRefusal(k, x);
    Contract c = books.find(k);
    if (why != DONE || c == null) {
      return NONE;
    }
    history.push(books);
    c.takeFromBase(books.year, x);
    return c.hit(books.year);
  }

  public int days(int n) {
    why = n < 1 || n > LAST_DAY - books.day ? BAD_NUMBER : DONE;
    if (why != DONE) {
      return NONE;
    }
    history.push(books);
    books.day += n;
    return books.day;
  }

  public int year() {
    why = books.year >= LAST_YEAR ? YEARS_AT_END : DONE;
    if (why != DONE) {
      return NONE;
    }
    history.push(books);
    tally.load(books);
    return books.passYear(tally.room(books));
  }

  // ---- whom to cut ----

  public long says(int k) {
    if (books.formula.size == 0 || books.findBegun(k) == null) {
      return NO_SUM;
    }
    tally.load(books);
    return policySum(k);
  }

  public int byPolicy(int goal) {
    if (books.formula.size == 0 || !isGoal(goal)) {
      return NONE;
    }
    int many = 0;
    for (int round = 0; round < MOST_CONTRACTS; round++) {
      tally.load(books);
      if (tally.room(books) >= goal) {
        return many;
      }
      int k = greatestByPolicy();
      if (k == NONE) {
        return many;
      }
      if (many == 0) {
        history.push(books);
      }
      books.release(k, false);
      many++;
    }
    return many;
  }

  public int set(int goal, int what) {
    if (!isGoal(goal) || what < 0 || what > 1) {
      return NONE;
    }
    chooser.chooseSet(books, tally, goal);
    if (!chooser.found) {
      return NO_WAY;
    }
    return what == 0 ? chooser.money : chooser.bits;
  }

  public int turned(int k, int what) {
    Contract c = books.findBegun(k);
    if (c == null) {
      return NONE;
    }
    switch (what) {
      case 0:
        return books.mostTurned(c);
      case 1:
        tally.load(books);
        return savedByTurn(k, c);
      default:
        return NONE;
    }
  }

  public int ahead(int year) {
    return isYear(year) && year > books.year ? books.countAhead(year) : NONE;
  }

  public int bestDay(int k) {
    Contract c = books.findBegun(k);
    if (c == null) {
      return NONE;
    }
    boolean early = books.day < books.cutDay;
    return early && books.deadNow(c, books.cutDay) < books.deadNow(c, books.day) ? 1 : 0;
  }

  public int coins(int k, int what) {
    Contract c = books.find(k);
    if (c == null) {
      return NONE;
    }
    int all = c.partsFrom(c.first);
    int left = c.partsFrom(c.isOpen() ? books.year + 1 : c.endedIn);
    switch (what) {
      case 0:
        return all;
      case 1:
        return all - left;
      case 2:
        return c.isOpen() ? 0 : left;
      case 3:
        return c.isOpen() ? left : 0;
      default:
        return NONE;
    }
  }

  public int freeYear(int k) {
    Contract c = books.find(k);
    if (c == null || !c.isOpen()) {
      return NONE;
    }
    int end = Math.min(c.first + c.years, MANY_YEARS);
    for (int y = Math.max(books.year, c.first); y < end; y++) {
      if (books.deadPay(c, y, 0) + c.partsFrom(y) < c.hit(y)) {
        return y;
      }
    }
    return NO_WAY;
  }

  public int allTurned() {
    tally.load(books);
    for (int k = 0; k < books.size; k++) {
      Contract c = books.findBegun(k);
      if (c != null) {
        int most = books.mostTurned(c);
        tally.shift(k, most, c.partOf(most, books.year, 0));
      }
    }
    tally.rank();
    return tally.room(books);
  }

  public int ranked(int i) {
    tally.load(books);
    return i >= 0 && i < tally.size ? tally.order[i] : NONE;
  }

  public int fit(int goal, int what) {
    if (!isGoal(goal) || what < 0 || what > 2) {
      return NONE;
    }
    chooser.chooseFit(books, tally, goal);
    if (!chooser.found) {
      return NO_WAY;
    }
    if (what == 0) {
      return chooser.money;
    }
    return what == 1 ? chooser.bits : chooser.turnedBits;
  }

  public int piece(int k, int x, int i) {
    Contract c = books.findBegun(k);
    if (c == null || x < 1 || x > MOST_MONEY || i < 0 || i >= Contract.MOST_PARTS) {
      return NONE;
    }
    return c.partOf(x, books.year, i);
  }

  public int lastDay(int k, int much) {
    if (books.findBegun(k) == null) {
      return NONE;
    }
    tally.load(books);
    // From CUT DAY and from SEASON DAY on a CUT saves as much as ahead of it at least; only
    // ROSTER DAY takes away from it. So the last day is the last of all, or ROSTER DAY's eve.
    return Math.max(dayIfSaved(k, much, LAST_DAY), dayIfSaved(k, much, books.rosterDay - 1));
  }

  // ---- money in hand, and what years are like ----

  public int cash(int k, int year) {
    Contract c = books.find(k);
    return c == null || !isYear(year) ? NONE : c.cashIn(year);
  }

  public int allCash(int year) {
    return isYear(year) ? books.cashOfAll(year) : NONE;
  }

  public int tag(int many) {
    if (many < 1 || many > MOST_CONTRACTS) {
      return NONE;
    }
    tally.load(books);
    int places = Math.min(many, tally.size);
    if (places < 1) {
      return NO_WAY;
    }
    int sum = 0;
    for (int i = 0; i < places; i++) {
      sum += tally.hit[tally.order[i]];
    }
    return sum / places;
  }

  public int counted(int what) {
    tally.load(books);
    int full = Math.min(tally.size, books.fullPlaces(books.day));
    switch (what) {
      case 0:
        return full < 1 ? NO_WAY : tally.hit[tally.order[full - 1]];
      case 1:
        return tally.size - full;
      default:
        return NONE;
    }
  }

  public int share(int year) {
    if (!isYear(year)) {
      return NONE;
    }
    int whole = books.limits[year];
    if (whole < 1) {
      return NO_WAY;
    }
    return (int) Math.min(books.deads[year] * 10000L / whole, 1000000000L);
  }

  public int dearest(int year) {
    if (!isYear(year)) {
      return NONE;
    }
    int best = NO_WAY;
    int most = NONE;
    for (int k = 0; k < books.size; k++) {
      Contract c = books.contracts[k];
      if (c.isOpen() && c.hit(year) > most) {
        best = k;
        most = c.hit(year);
      }
    }
    return best;
  }

  public int offer(int i, int what) {
    Market offers = books.offers;
    if (!offers.has(i)) {
      return NONE;
    }
    switch (what) {
      case 0:
        return offers.worth[i];
      case 1:
        return offers.years[i];
      case 2:
        return offers.bonus[i];
      case 3:
        return offers.base[i];
      case 4:
        return offers.hit(i);
      default:
        return NONE;
    }
  }

  public int buys(int what) {
    if (what < 0 || what > 2) {
      return NONE;
    }
    tally.load(books);
    chooser.chooseOffers(books.offers, Math.max(0, tally.room(books)));
    if (what == 0) {
      return chooser.worth;
    }
    return what == 1 ? chooser.bits : chooser.money;
  }

  public int promised(int i, int what) {
    Promises all = books.promises;
    if (!all.has(i)) {
      return NONE;
    }
    switch (what) {
      case 0:
        return all.contract[i];
      case 1:
        return all.year[i];
      case 2:
        return all.amount[i];
      case 3:
        return all.likely[i] ? 1 : 0;
      case 4:
        return all.earned[i] ? 1 : 0;
      default:
        return NONE;
    }
  }

  public int floor(int year, int what) {
    if (!isYear(year) || what < 0 || what > 2) {
      return NONE;
    }
    int paid = 0;
    int limits = 0;
    for (int y = year; y <= Math.min(year + 3, LAST_YEAR); y++) {
      paid += books.cashOfAll(y);
      limits += books.limits[y];
    }
    int due = limits * 89 / 100;
    if (what == 0) {
      return paid;
    }
    return what == 1 ? due : Math.max(0, due - paid);
  }

  public int over(int n) {
    if (n < 1 || n > 10) {
      return NONE;
    }
    int bits = 0;
    for (int i = 0; i < n; i++) {
      int y = books.year + 1 + i;
      if (isYear(y) && books.countAhead(y) > books.limits[y]) {
        bits |= 1 << i;
      }
    }
    return bits;
  }

  // ---- taken back, kept, written ----

  public int undo() {
    Books before = history.pop();
    if (before == null) {
      return NONE;
    }
    books.copyFrom(before);
    return history.size;
  }

  public boolean keep(int k) {
    if (k < 0 || k >= KEPT_PLACES) {
      return false;
    }
    Books place = kept[k];
    if (place == null) {
      place = new Books();
      kept[k] = place;
    }
    place.copyFrom(books);
    return true;
  }

  public boolean restore(int k) {
    if (k < 0 || k >= KEPT_PLACES) {
      return false;
    }
    Books place = kept[k];
    if (place == null) {
      return false;
    }
    history.push(books);
    books.copyFrom(place);
    return true;
  }

  public int write() {
    written.size = 0;
    written.add('d');
    written.addNumber(books.cutDay);
    written.add(',');
    written.addNumber(books.rosterDay);
    written.add(',');
    written.addNumber(books.seasonDay);
    written.add(';');
    written.add('c');
    written.addNumber(books.counted);
    written.add(';');
    written.add('m');
    written.addNumber(books.leastPay);
    written.add(';');
    for (int y = 0; y < MANY_YEARS; y++) {
      written.add('l');
      written.addNumber(y);
      written.add(',');
      written.addNumber(books.limits[y]);
      written.add(';');
    }
    return written.size;
  }

  public int octet(int k) {
    return written.at(k);
  }

  // ---- helpers of the face ----

  private static boolean isYear(int year) {
    return year >= 0 && year < MANY_YEARS;
  }

  private static boolean isGoal(int goal) {
    return goal >= -MOST_GOAL && goal <= MOST_GOAL;
  }

  /** Ends the reading of a text into the draft: the tape is empty, and without a FAULT the draft holds. */
  private int takeDraft(int many) {
    fault = reader.finish();
    if (fault != NONE) {
      return NONE;
    }
    history.push(books);
    Books before = books;
    books = draft;
    draft = before;
    return many;
  }

  private boolean perform(int i) {
    int first = acts.first[i];
    switch (acts.kind[i]) {
      case 'x':
        letGo(first, false);
        break;
      case 't':
        turn(first, acts.second[i]);
        break;
      case 'd':
        days(first);
        break;
      default:
        year();
        break;
    }
    return why == DONE;
  }

  private int letGo(int k, boolean traded) {
    why = books.refusal(k);
    if (why != DONE) {
      return NONE;
    }
    history.push(books);
    books.release(k, traded);
    return books.manyThatAre(OPEN);
  }

  private boolean countsInFull(int k) {
    tally.load(books);
    int full = Math.min(tally.size, books.fullPlaces(books.day));
    for (int i = 0; i < full; i++) {
      if (tally.order[i] == k) {
        return true;
      }
    }
    return false;
  }

  private int dayIfSaved(int k, int much, int day) {
    return day >= books.day && tally.saved(books, k, day) >= much ? day : NO_WAY;
  }

  private int savedByTurn(int k, Contract c) {
    int before = tally.count(books, books.day);
    int most = books.mostTurned(c);
    tally.shift(k, most, c.partOf(most, books.year, 0));
    tally.rank();
    return before - tally.count(books, books.day);
  }

  /** The tally must be loaded: all candidates of one round share it. */
  private long policySum(int k) {
    Contract c = books.findBegun(k);
    if (c == null) {
      return NO_SUM;
    }
    Formula f = books.formula;
    f.put('h', c.hit(books.year));
    f.put('x', books.deadInAll(c));
    f.put('s', tally.saved(books, k, books.day));
    f.put('y', c.yearsLeft(books.year));
    f.put('b', c.basePay(books.year));
    f.put('n', k);
    return f.value();
  }

  private int greatestByPolicy() {
    int best = NONE;
    long most = 0;
    for (int k = 0; k < books.size; k++) {
      if (books.findBegun(k) == null || tally.saved(books, k, books.day) <= 0) {
        continue;
      }
      long sum = policySum(k);
      if (best == NONE || sum > most) {
        best = k;
        most = sum;
      }
    }
    return best;
  }

  /** A row of bytes: the tape, and what was written. */
  private static final class Bytes {
    final int[] bytes;
    int size;

    Bytes(int most) {
      bytes = new int[Math.max(0, most)];
    }

    int at(int i) {
      return i >= 0 && i < size && i < bytes.length ? bytes[i] : NONE;
    }

    void add(int b) {
      if (size >= 0 && size < bytes.length) {
        bytes[size] = b & 255;
        size++;
      }
    }

    void addWord(int word) {
      add(word >>> 24);
      add(word >>> 16);
      add(word >>> 8);
      add(word);
    }

    void addNumber(int n) {
      if (n < 10) {
        add('0' + n);
        return;
      }
      int unit = 100000;
      for (int i = 0; i < 5 && unit > n; i++) {
        unit /= 10;
      }
      for (int i = 0; i < 6 && unit > 0; i++) {
        add('0' + n / unit % 10);
        unit /= 10;
      }
    }
  }

  /** Reads a text; behind the first FAULT it reads nothing more, so that callers need not ask each time. */
  private static final class Reader {
    private static final int MOST_DIGITS = 6;
    final Bytes tape = new Bytes(TAPE_BYTES);
    int at;
    private int fault = NONE;

    void begin() {
      at = 0;
      fault = NONE;
    }

    /** The tape is empty behind each reading, well or not: the FAULT's place, or NONE. */
    int finish() {
      tape.size = 0;
      return fault;
    }

    boolean hasMore() {
      return fault == NONE && at < tape.size;
    }

    int peek() {
      return tape.at(at);
    }

    private static boolean isDigit(int b) {
      return b >= '0' && b <= '9';
    }

    void fail(int place) {
      if (fault == NONE) {
        fault = place;
      }
    }

    void skip() {
      if (fault == NONE) {
        at++;
      }
    }

    void expect(int b) {
      if (fault != NONE) {
        return;
      }
      if (tape.at(at) == b) {
        at++;
      } else {
        fault = at;
      }
    }

    /** A number from least to most; 0 where there is a FAULT. */
    int number(int least, int most) {
      if (fault != NONE) {
        return 0;
      }
      int start = at;
      int value = 0;
      for (int i = 0; i < MOST_DIGITS && isDigit(peek()); i++) {
        value = value * 10 + peek() - '0';
        at++;
      }
      if (at == start || isDigit(peek())) {
        fail(at);
        return 0;
      }
      if (value < least || value > most) {
        fail(start);
        return 0;
      }
      return value;
    }

    int numberAndComma(int least, int most) {
      int value = number(least, most);
      expect(',');
      return value;
    }

    int readItems(Books into) {
      int items = 0;
      for (int i = 0; i < TAPE_BYTES && hasMore(); i++) {
        readItem(into);
        expect(';');
        items++;
      }
      return items;
    }

    private void readItem(Books into) {
      int letter = peek();
      if (letter == 'p' && into.size >= MOST_CONTRACTS) {
        fail(at);
        return;
      }
      switch (letter) {
        case 'l':
          skip();
          readLimit(into);
          break;
        case 'd':
          skip();
          into.cutDay = numberAndComma(0, LAST_DAY);
          into.rosterDay = numberAndComma(0, LAST_DAY);
          into.seasonDay = number(0, LAST_DAY);
          break;
        case 'c':
          skip();
          into.counted = number(1, MOST_CONTRACTS);
          break;
        case 'm':
          skip();
          into.leastPay = number(0, 9999);
          break;
        case 'p':
          skip();
          readContract(into);
          break;
        default:
          fail(at);
          break;
      }
    }

    private void readLimit(Books into) {
      int y = numberAndComma(0, LAST_YEAR);
      int limit = number(0, MOST_LIMIT);
      if (isYear(y)) {
        into.limits[y] = limit;
      }
    }

    private void readContract(Books into) {
      int first = numberAndComma(into.year, LAST_YEAR);
      int years = numberAndComma(1, Math.min(6, MANY_YEARS - first));
      int voids = numberAndComma(0, Math.min(4, MANY_YEARS - first - years));
      int bonus = numberAndComma(0, MOST_MONEY);
      int sure = number(0, 100);
      Contract c = into.addContract();
      if (fault != NONE || c == null) {
        return;
      }
      c.start(first, years, voids, sure);
      c.spread(first, bonus);
      for (int i = 0; i < years; i++) {
        expect(':');
        int base = numberAndComma(into.leastPay, MOST_MONEY);
        c.putPay(i, base, number(0, MOST_MONEY));
      }
    }
  }

  /** One contract; its rows go by the years from its first one on. */
  private static final class Contract {
    static final int MOST_PARTS = 5;
    static final int ROWS = 10;
    int first;
    int years;
    int voids;
    int sure;
    int state;
    /** The year in which it was CUT or over. */
    int endedIn;
    private final int[] base = new int[ROWS];
    private final int[] roster = new int[ROWS];
    private final int[] parts = new int[ROWS];
    /** Bonuses by the year from which they are spread. */
    private final int[] given = new int[ROWS];

    void start(int firstYear, int manyYears, int voidYears, int surePart) {
      first = firstYear;
      years = manyYears;
      voids = voidYears;
      sure = surePart;
      state = OPEN;
      endedIn = 0;
      for (int i = 0; i < ROWS; i++) {
        base[i] = 0;
        roster[i] = 0;
        parts[i] = 0;
        given[i] = 0;
      }
    }

    void copyFrom(Contract other) {
      first = other.first;
      years = other.years;
      voids = other.voids;
      sure = other.sure;
      state = other.state;
      endedIn = other.endedIn;
      System.arraycopy(other.base, 0, base, 0, ROWS);
      System.arraycopy(other.roster, 0, roster, 0, ROWS);
      System.arraycopy(other.parts, 0, parts, 0, ROWS);
      System.arraycopy(other.given, 0, given, 0, ROWS);
    }

    private boolean plays(int year) {
      return year >= first && year - first < years && year - first < ROWS;
    }

    boolean isOpen() {
      return state == OPEN;
    }

    int lastYear() {
      return first + years + voids - 1;
    }

    int yearsLeft(int year) {
      return isOpen() && plays(year) ? first + years - year : 0;
    }

    int basePay(int year) {
      return plays(year) ? base[year - first] : 0;
    }

    int rosterBonus(int year) {
      return plays(year) ? roster[year - first] : 0;
    }

    int partsIn(int year) {
      int row = year - first;
      return row >= 0 && row < ROWS ? parts[row] : 0;
    }

    int partsFrom(int year) {
      int sum = 0;
      for (int i = Math.max(0, year - first); i < ROWS; i++) {
        sum += parts[i];
      }
      return sum;
    }

    int hit(int year) {
      return basePay(year) + rosterBonus(year) + partsIn(year);
    }

    int sureBase(int year) {
      return year == first ? base[0] * sure / 100 : 0;
    }

    int cashIn(int year) {
      int row = year - first;
      int sum = row >= 0 && row < ROWS ? given[row] : 0;
      return isOpen() || year < endedIn ? sum + basePay(year) + rosterBonus(year) : sum;
    }

    void putPay(int i, int basePay, int rosterBonus) {
      if (i >= 0 && i < ROWS) {
        base[i] = basePay;
        roster[i] = rosterBonus;
      }
    }

    void takeFromBase(int year, int x) {
      if (plays(year)) {
        base[year - first] -= x;
      }
    }

    void addYears(int n, int pay) {
      for (int i = 0; i < n; i++) {
        putPay(years + i, pay, 0);
      }
      years += n;
    }

    /** PART i of a bonus that is spread from a year on. */
    int partOf(int bonus, int year, int i) {
      return partOfMany(bonus, lastYear() - year + 1, i);
    }

    static int partOfMany(int bonus, int overYears, int i) {
      int many = Math.min(MOST_PARTS, overYears);
      if (many < 1 || i >= many) {
        return 0;
      }
      return i == 0 ? bonus / many + bonus % many : bonus / many;
    }

    void spread(int year, int bonus) {
      int row = year - first;
      if (row < 0 || row >= ROWS) {
        return;
      }
      given[row] += bonus;
      for (int i = 0; i < MOST_PARTS && row + i < ROWS; i++) {
        parts[row + i] += partOf(bonus, year, i);
      }
    }
  }

  /** All that a DEED changes, and that is kept and taken back. */
  private static final class Books {
    int year;
    int day;
    int cutDay = 150;
    int rosterDay = 20;
    int seasonDay = 200;
    int counted = 20;
    int leastPay = 100;
    final int[] limits = new int[MANY_YEARS];
    final int[] deads = new int[MANY_YEARS];
    final Contract[] contracts = new Contract[MOST_CONTRACTS];
    int size;
    final Promises promises = new Promises();
    final Market offers = new Market();
    final Formula formula = new Formula();

    Books() {
      for (int y = 0; y < MANY_YEARS; y++) {
        limits[y] = 100000;
      }
      for (int k = 0; k < MOST_CONTRACTS; k++) {
        contracts[k] = new Contract();
      }
    }

    void copyFrom(Books other) {
      year = other.year;
      day = other.day;
      cutDay = other.cutDay;
      rosterDay = other.rosterDay;
      seasonDay = other.seasonDay;
      counted = other.counted;
      leastPay = other.leastPay;
      System.arraycopy(other.limits, 0, limits, 0, MANY_YEARS);
      System.arraycopy(other.deads, 0, deads, 0, MANY_YEARS);
      size = other.size;
      for (int k = 0; k < size; k++) {
        contracts[k].copyFrom(other.contracts[k]);
      }
      promises.copyFrom(other.promises);
      offers.copyFrom(other.offers);
      formula.copyFrom(other.formula);
    }

    Contract find(int k) {
      return k >= 0 && k < size ? contracts[k] : null;
    }

    /** One that could be CUT; null otherwise. */
    Contract findBegun(int k) {
      return refusal(k) == DONE ? contracts[k] : null;
    }

    Contract addContract() {
      if (size >= MOST_CONTRACTS) {
        return null;
      }
      size++;
      return contracts[size - 1];
    }

    int manyThatAre(int state) {
      int many = 0;
      for (int k = 0; k < size; k++) {
        if (contracts[k].state == state) {
          many++;
        }
      }
      return many;
    }

    int refusal(int k) {
      Contract c = find(k);
      if (c == null) {
        return NO_SUCH;
      }
      if (!c.isOpen()) {
        return NOT_OPEN;
      }
      return c.first > year ? NOT_BEGUN : DONE;
    }

    /** Why x can't come off BASE of this year. */
    int payRefusal(int k, int x) {
      int reason = refusal(k);
      if (reason != DONE) {
        return reason;
      }
      if (x < 1 || x > MOST_MONEY) {
        return BAD_NUMBER;
      }
      return contracts[k].basePay(year) - x < leastPay ? BELOW_LEAST_PAY : DONE;
    }

    int longerRefusal(int k, int n, int base, int bonus) {
      int reason = refusal(k);
      if (reason != DONE) {
        return reason;
      }
      if (n < 1 || n > MOST_MORE_YEARS || base < 0 || base > MOST_MONEY || bonus < 0 || bonus > MOST_MONEY) {
        return BAD_NUMBER;
      }
      if (base < leastPay) {
        return BELOW_LEAST_PAY;
      }
      Contract c = contracts[k];
      boolean tooMany = c.years + c.voids + n > Contract.ROWS || c.lastYear() + n > LAST_YEAR;
      return tooMany ? TOO_MANY_YEARS : DONE;
    }

    int signRefusal(int i) {
      if (!offers.has(i)) {
        return NO_SUCH;
      }
      boolean tooMany = size >= MOST_CONTRACTS || year + offers.years[i] > MANY_YEARS;
      return tooMany ? TOO_MANY_YEARS : DONE;
    }

    int takeOffer(int i) {
      Contract c = addContract();
      if (c == null || !offers.has(i)) {
        return NONE;
      }
      c.start(year, offers.years[i], 0, 0);
      c.spread(year, offers.bonus[i]);
      for (int j = 0; j < c.years; j++) {
        c.putPay(j, offers.base[i], 0);
      }
      offers.remove(i);
      return size - 1;
    }

    int fullPlaces(int onDay) {
      return onDay < seasonDay ? counted : MOST_CONTRACTS;
    }

    /** Of BASE and ROSTER BONUS of a year what a CUT on a day of it leaves DEAD. */
    int deadPay(Contract c, int inYear, int onDay) {
      int sure = c.sureBase(inYear);
      return onDay >= rosterDay ? sure + c.rosterBonus(inYear) : sure;
    }

    int deadPartsNow(Contract c, int onDay) {
      return onDay < cutDay || year >= LAST_YEAR ? c.partsFrom(year) : c.partsIn(year);
    }

    int deadNow(Contract c, int onDay) {
      return deadPay(c, year, onDay) + deadPartsNow(c, onDay);
    }

    int deadNext(Contract c, int onDay) {
      return c.partsFrom(year) - deadPartsNow(c, onDay);
    }

    int deadInAll(Contract c) {
      return deadPay(c, year, day) + c.partsFrom(year);
    }

    void release(int k, boolean traded) {
      Contract c = findBegun(k);
      if (c == null) {
        return;
      }
      deads[year] += traded ? deadPartsNow(c, day) : deadNow(c, day);
      if (year < LAST_YEAR) {
        deads[year + 1] += deadNext(c, day);
      }
      c.state = CUT;
      c.endedIn = year;
    }

    int mostTurned(Contract c) {
      return Math.max(0, c.basePay(year) - leastPay);
    }

    int countAhead(int ahead) {
      int sum = isYear(ahead) ? deads[ahead] : 0;
      for (int k = 0; k < size; k++) {
        Contract c = contracts[k];
        if (!c.isOpen()) {
          continue;
        }
        int overIn = c.first + c.years;
        if (ahead < overIn) {
          sum += c.hit(ahead) + promises.likelyOf(k, ahead);
        } else if (ahead == overIn) {
          sum += c.partsFrom(ahead);
        }
      }
      return sum;
    }

    int cashOfAll(int inYear) {
      int sum = 0;
      for (int k = 0; k < size; k++) {
        sum += contracts[k].cashIn(inYear);
      }
      return sum;
    }

    /** A year goes by, with the ROOM that it leaves: how many are over by that. */
    int passYear(int room) {
      if (year < 0 || year >= LAST_YEAR) {
        return 0;
      }
      int limit = limits[year + 1] + Math.max(0, room) + promisesSettled();
      year++;
      day = 0;
      limits[year] = Math.max(0, Math.min(MOST_LIMIT, limit));
      int many = 0;
      for (int k = 0; k < size; k++) {
        Contract c = contracts[k];
        if (c.isOpen() && c.first + c.years <= year) {
          c.state = OVER;
          c.endedIn = year;
          deads[year] += c.partsFrom(year);
          many++;
        }
      }
      return many;
    }

    private int promisesSettled() {
      int sum = 0;
      for (int i = 0; i < promises.size; i++) {
        Contract c = find(promises.contract[i]);
        if (c != null && c.isOpen() && promises.year[i] == year) {
          sum += promises.settled(i);
        }
      }
      return sum;
    }
  }

  /** Rows of PROMISES; those that are made stay. */
  private static final class Promises {
    private static final int MOST = 24;
    int size;
    final int[] contract = new int[MOST];
    final int[] year = new int[MOST];
    final int[] amount = new int[MOST];
    final boolean[] likely = new boolean[MOST];
    final boolean[] earned = new boolean[MOST];

    void copyFrom(Promises other) {
      size = other.size;
      System.arraycopy(other.contract, 0, contract, 0, MOST);
      System.arraycopy(other.year, 0, year, 0, MOST);
      System.arraycopy(other.amount, 0, amount, 0, MOST);
      System.arraycopy(other.likely, 0, likely, 0, MOST);
      System.arraycopy(other.earned, 0, earned, 0, MOST);
    }

    boolean has(int i) {
      return i >= 0 && i < size;
    }

    boolean isFull() {
      return size >= MOST;
    }

    int add(int k, int inYear, int much, boolean isLikely) {
      if (isFull()) {
        return NONE;
      }
      contract[size] = k;
      year[size] = inYear;
      amount[size] = much;
      likely[size] = isLikely;
      earned[size] = false;
      size++;
      return size - 1;
    }

    int likelyOf(int k, int inYear) {
      int sum = 0;
      for (int i = 0; i < size; i++) {
        if (likely[i] && contract[i] == k && year[i] == inYear) {
          sum += amount[i];
        }
      }
      return sum;
    }

    /** What promise i, as its year goes by, brings to the next LIMIT. */
    int settled(int i) {
      if (likely[i] == earned[i]) {
        return 0;
      }
      return likely[i] ? amount[i] : -amount[i];
    }
  }

  /** Rows of OFFERS; those behind one that is signed move up. */
  private static final class Market {
    private static final int MOST = 12;
    int size;
    final int[] worth = new int[MOST];
    final int[] years = new int[MOST];
    final int[] bonus = new int[MOST];
    final int[] base = new int[MOST];

    void copyFrom(Market other) {
      size = other.size;
      System.arraycopy(other.worth, 0, worth, 0, MOST);
      System.arraycopy(other.years, 0, years, 0, MOST);
      System.arraycopy(other.bonus, 0, bonus, 0, MOST);
      System.arraycopy(other.base, 0, base, 0, MOST);
    }

    boolean has(int i) {
      return i >= 0 && i < size;
    }

    int hit(int i) {
      return Contract.partOfMany(bonus[i], years[i], 0) + base[i];
    }

    void remove(int i) {
      if (!has(i)) {
        return;
      }
      for (int j = i; j + 1 < size; j++) {
        worth[j] = worth[j + 1];
        years[j] = years[j + 1];
        bonus[j] = bonus[j + 1];
        base[j] = base[j + 1];
      }
      size--;
    }

    int read(Reader from, int leastPay) {
      size = 0;
      for (int i = 0; i < MOST && from.hasMore(); i++) {
        worth[i] = from.numberAndComma(1, 9999);
        years[i] = from.numberAndComma(1, 6);
        bonus[i] = from.numberAndComma(0, MOST_MONEY);
        base[i] = from.number(leastPay, MOST_MONEY);
        from.expect(';');
        size++;
      }
      if (from.hasMore()) {
        from.fail(from.at);
      }
      return size;
    }
  }

  /** THE POLICY, its operators behind what they join, so that a row and a pile work it out. */
  private static final class Formula {
    private static final int MOST_THINGS = 40;
    private static final int MOST_WITHIN = 6;
    private static final int ROWS = 2 * MOST_THINGS;
    /** Each ( holds back two operators and itself at most, and as many numbers. */
    private static final int HELD = 3 * MOST_WITHIN + 3;
    private static final String LETTERS = "hxsybn";
    private static final int MANY_LETTERS = 6;
    int size;
    /** A number as it is; a letter (its place) and an operator (its sign) as less than 0. */
    private final int[] tokens = new int[ROWS];
    private final int[] waiting = new int[HELD];
    private int waits;
    private final int[] letters = new int[MANY_LETTERS];
    private final long[] pile = new long[HELD];

    void copyFrom(Formula other) {
      size = other.size;
      System.arraycopy(other.tokens, 0, tokens, 0, ROWS);
    }

    int read(Reader from) {
      size = 0;
      waits = 0;
      int things = 0;
      int within = 0;
      boolean wanted = from.hasMore();
      for (int i = 0; i < TAPE_BYTES && from.hasMore(); i++) {
        int b = from.peek();
        if (wanted) {
          boolean opens = b == '(';
          if (things >= MOST_THINGS || opens && within >= MOST_WITHIN) {
            from.fail(from.at);
          } else if (opens) {
            from.skip();
            hold(b);
            within++;
          } else {
            readThing(from);
            wanted = false;
          }
          things++;
        } else if (b == ')' && within > 0) {
          from.skip();
          closeBracket();
          within--;
        } else {
          readOperator(from);
          wanted = true;
        }
      }
      if (wanted || within > 0) {
        from.fail(from.at);
      }
      emitWaiting(0);
      return things;
    }

    private void readThing(Reader from) {
      int place = placeOf(from.peek());
      if (place == NONE) {
        emit(from.number(0, MOST_NUMBER));
      } else {
        from.skip();
        emit(-1 - place);
      }
    }

    private static int placeOf(int letter) {
      for (int i = 0; i < MANY_LETTERS; i++) {
        if (LETTERS.charAt(i) == letter) {
          return i;
        }
      }
      return NONE;
    }

    private void readOperator(Reader from) {
      int b = from.peek();
      if (b != '+' && b != '-' && b != '*') {
        from.fail(from.at);
        return;
      }
      from.skip();
      emitWaiting(strength(b));
      hold(b);
    }

    private static int strength(int b) {
      if (b == '*') {
        return 2;
      }
      return b == '(' ? 0 : 1;
    }

    private void emit(int token) {
      if (size >= 0 && size < ROWS) {
        tokens[size] = token;
        size++;
      }
    }

    private void hold(int b) {
      if (waits >= 0 && waits < HELD) {
        waiting[waits] = b;
        waits++;
      }
    }

    /** Operators that bind as strongly at least come ahead of the one that is there now. */
    private void emitWaiting(int strength) {
      int least = Math.max(1, strength);
      for (int i = waits - 1; i >= 0 && i < HELD && strength(waiting[i]) >= least; i--) {
        emit(-waiting[i]);
        waits = i;
      }
    }

    private void closeBracket() {
      emitWaiting(0);
      waits = Math.max(0, waits - 1);
    }

    void put(int letter, int value) {
      int place = placeOf(letter);
      if (place != NONE) {
        letters[place] = value;
      }
    }

    long value() {
      int high = 0;
      for (int i = 0; i < size && i < ROWS; i++) {
        int t = tokens[i];
        if (t < -MANY_LETTERS) {
          high = Math.max(high - 1, 1);
          pile[high - 1] = join(t, pile[high - 1], pile[high]);
        } else if (high < HELD - 1) {
          pile[high] = t < 0 ? letters[-1 - t] : t;
          high++;
        }
      }
      return pile[0];
    }

    private static long join(int token, long a, long b) {
      if (token == -'*') {
        return a * b;
      }
      return token == -'+' ? a + b : a - b;
    }
  }

  /** ACTS as they were read: all are read ahead of the first that is done. */
  private static final class Acts {
    private static final int MOST = 20;
    int size;
    final int[] kind = new int[MOST];
    final int[] first = new int[MOST];
    final int[] second = new int[MOST];

    void read(Reader from) {
      size = 0;
      for (int i = 0; i < MOST && from.hasMore(); i++) {
        readAct(from, i);
        from.expect(';');
        size++;
      }
      if (from.hasMore()) {
        from.fail(from.at);
      }
    }

    private void readAct(Reader from, int i) {
      int letter = from.peek();
      kind[i] = letter;
      first[i] = 0;
      second[i] = 0;
      switch (letter) {
        case 'x':
        case 'd':
          from.skip();
          first[i] = from.number(0, MOST_NUMBER);
          break;
        case 't':
          from.skip();
          first[i] = from.numberAndComma(0, MOST_NUMBER);
          second[i] = from.number(0, MOST_NUMBER);
          break;
        case 'y':
          from.skip();
          break;
        default:
          from.fail(from.at);
          break;
      }
    }
  }

  /** What counts in the year: OPEN contracts by rank, and what each of them counts. */
  private static final class Tally {
    final int[] hit = new int[MOST_CONTRACTS];
    final int[] parts = new int[MOST_CONTRACTS];
    final int[] likely = new int[MOST_CONTRACTS];
    /** Taken as CUT, though it is not. */
    final boolean[] gone = new boolean[MOST_CONTRACTS];
    final int[] order = new int[MOST_CONTRACTS];
    int size;

    void load(Books books) {
      size = 0;
      for (int k = 0; k < books.size; k++) {
        Contract c = books.contracts[k];
        hit[k] = c.hit(books.year);
        parts[k] = c.partsIn(books.year);
        likely[k] = 0;
        gone[k] = false;
        if (c.isOpen()) {
          order[size] = k;
          size++;
        }
      }
      loadPromises(books.promises, books.year);
      rank();
    }

    private void loadPromises(Promises all, int year) {
      for (int i = 0; i < all.size; i++) {
        int k = all.contract[i];
        if (all.likely[i] && all.year[i] == year && k >= 0 && k < MOST_CONTRACTS) {
          likely[k] += all.amount[i];
        }
      }
    }

    /** Sorts in place: where few HITS have changed there is little to move. */
    void rank() {
      for (int i = 1; i < size; i++) {
        int k = order[i];
        int j = i;
        for (; j > 0 && isAhead(k, order[j - 1]); j--) {
          order[j] = order[j - 1];
        }
        order[j] = k;
      }
    }

    private boolean isAhead(int a, int b) {
      return hit[a] > hit[b] || hit[a] == hit[b] && a < b;
    }

    /** As if pay of contract k became a bonus whose first PART is given. */
    void shift(int k, int pay, int part) {
      if (k >= 0 && k < MOST_CONTRACTS) {
        hit[k] += part - pay;
        parts[k] += part;
      }
    }

    private int total(int fullPlaces) {
      int sum = 0;
      int full = 0;
      for (int i = 0; i < size; i++) {
        int k = order[i];
        if (gone[k]) {
          continue;
        }
        sum += likely[k] + (full < fullPlaces ? hit[k] : parts[k]);
        full++;
      }
      return sum;
    }

    int count(Books books, int day) {
      return books.deads[books.year] + total(books.fullPlaces(day));
    }

    int room(Books books) {
      return books.limits[books.year] - count(books, books.day);
    }

    int saved(Books books, int k, int day) {
      Contract c = books.findBegun(k);
      if (c == null) {
        return 0;
      }
      int before = count(books, day);
      gone[k] = true;
      int after = count(books, day) + books.deadNow(c, day);
      gone[k] = false;
      return before - after;
    }
  }

  /** Goes through all sets and ways, and holds the best one. */
  private static final class Chooser {
    private static final int MOST = 10;
    private static final int MOST_FIT = 6;
    private final int[] who = new int[MOST];
    private final int[] deadNow = new int[MOST];
    private final int[] deadInAll = new int[MOST];
    private final int[] hits = new int[MOST];
    private final int[] parts = new int[MOST];
    private final int[] pay = new int[MOST];
    private final int[] firstPart = new int[MOST];
    private int size;
    boolean found;
    int money;
    int worth;
    int bits;
    int turnedBits;

    private void gather(Books books, Tally tally, int most) {
      tally.load(books);
      found = false;
      size = 0;
      for (int k = 0; k < books.size && size < most; k++) {
        Contract c = books.findBegun(k);
        if (c != null) {
          who[size] = k;
          deadNow[size] = books.deadNow(c, books.day);
          deadInAll[size] = books.deadInAll(c);
          hits[size] = tally.hit[k];
          parts[size] = tally.parts[k];
          pay[size] = books.mostTurned(c);
          firstPart[size] = c.partOf(pay[size], books.year, 0);
          size++;
        }
      }
    }

    private int sumOf(int[] row, int set) {
      int sum = 0;
      for (int i = 0; i < size; i++) {
        if ((set >> i & 1) != 0) {
          sum += row[i];
        }
      }
      return sum;
    }

    void chooseSet(Books books, Tally tally, int goal) {
      gather(books, tally, MOST);
      for (int set = 0; set < 1 << size; set++) {
        int dead = sumOf(deadInAll, set);
        boolean better = dead < money || dead == money && Integer.bitCount(set) < Integer.bitCount(bits);
        if (found && !better) {
          continue;
        }
        for (int i = 0; i < size; i++) {
          tally.gone[who[i]] = (set >> i & 1) != 0;
        }
        if (tally.room(books) - sumOf(deadNow, set) >= goal) {
          found = true;
          money = dead;
          bits = set;
        }
      }
    }

    void chooseFit(Books books, Tally tally, int goal) {
      gather(books, tally, MOST_FIT);
      int ways = 1;
      for (int i = 0; i < size; i++) {
        ways *= 3;
      }
      for (int way = 0; way < ways; way++) {
        int cut = digits(way, 1);
        int dead = sumOf(deadInAll, cut);
        if (found && dead >= money) {
          continue;
        }
        int turned = digits(way, 2);
        arrange(tally, cut, turned);
        if (tally.room(books) - sumOf(deadNow, cut) >= goal) {
          found = true;
          money = dead;
          bits = cut;
          turnedBits = turned;
        }
      }
    }

    /** The places, as bits, where a number to the base 3 has that digit. */
    private int digits(int way, int digit) {
      int set = 0;
      int rest = way;
      for (int i = 0; i < size; i++) {
        if (rest % 3 == digit) {
          set |= 1 << i;
        }
        rest /= 3;
      }
      return set;
    }

    private void arrange(Tally tally, int cut, int turned) {
      for (int i = 0; i < size; i++) {
        int k = who[i];
        tally.gone[k] = (cut >> i & 1) != 0;
        tally.hit[k] = hits[i];
        tally.parts[k] = parts[i];
        if ((turned >> i & 1) != 0) {
          tally.shift(k, pay[i], firstPart[i]);
        }
      }
      tally.rank();
    }

    /** The empty set is always one of them, so there always is a best one. */
    void chooseOffers(Market offers, int room) {
      worth = 0;
      bits = 0;
      money = 0;
      size = Math.min(MOST, offers.size);
      for (int i = 0; i < size; i++) {
        hits[i] = offers.hit(i);
      }
      for (int set = 1; set < 1 << size; set++) {
        int much = sumOf(offers.worth, set);
        boolean fewer = Integer.bitCount(set) < Integer.bitCount(bits);
        int price = sumOf(hits, set);
        if (price <= room && (much > worth || much == worth && fewer)) {
          worth = much;
          bits = set;
          money = price;
        }
      }
    }
  }

  /** The books ahead of the latest DEEDS; each place is made once and used again. */
  private static final class History {
    private static final int MOST = 8;
    private final Books[] past = new Books[MOST];
    private int next;
    int size;

    void push(Books now) {
      Books place = past[next];
      if (place == null) {
        place = new Books();
        past[next] = place;
      }
      place.copyFrom(now);
      next = (next + 1) % MOST;
      size = Math.min(MOST, size + 1);
    }

    Books pop() {
      if (size < 1) {
        return null;
      }
      size--;
      next = (next + MOST - 1) % MOST;
      return past[next];
    }
  }
}
