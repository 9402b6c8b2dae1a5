/**
 * Sets of numbers as rows of binary digits, families of them, a sieve, a relation of points, rules
 * and a walk through the parts of a set. The numbered promises of ../shared/DOC.md say what each
 * method does; the words in capitals are that document's.
 */
public final class Setsieve {
  private static final int NONE = -1;
  private static final int REFUSED = -9;
  private static final int WORLD = 96;
  private static final int WORD = 64;
  private static final long LOWER_HALF = 0xFFFFFFFFL;
  private static final int SETS = 6;
  private static final int ALL_SETS = (1 << SETS) - 1;
  private static final int POINTS = 12;
  private static final int ALL_POINTS = (1 << POINTS) - 1;
  private static final int RULES = 8;
  private static final int MOST_WALKED = 10;

  private final Row[] sets = new Row[SETS];
  private final Row family = new Row();
  private final Sieve numbersLeft = new Sieve();
  private final Relation relation = new Relation();
  private final Rules rules = new Rules();
  private final Walk parts = new Walk();
  private final Theorems theorems = new Theorems();
  private int refusals;
  private int knocks;

  public Setsieve() {
    for (int set = 0; set < SETS; set++) {
      sets[set] = new Row();
    }
  }

  // ---- changing sets

  public int put(int set, int number) throws IndexOutOfBoundsException, IllegalArgumentException {
    return tell(set, number, true);
  }

  public int drop(int set, int number) throws IndexOutOfBoundsException, IllegalArgumentException {
    return tell(set, number, false);
  }

  public int flip(int set, int number) throws IndexOutOfBoundsException, IllegalArgumentException {
    Row row = setAt(set);
    requireNotAbove(number, WORLD - 1);
    if (number < 0) {
      return refuse();
    }
    row.turnStretch(number, number + 1);
    return row.count();
  }

  public int tell(int set, int number, boolean is)
      throws IndexOutOfBoundsException, IllegalArgumentException {
    Row row = setAt(set);
    requireNotAbove(number, WORLD - 1);
    if (number < 0) {
      return refuse();
    }
    row.tellStretch(number, number + 1, is);
    return row.count();
  }

  public int fill(int set, int from, int to, boolean is)
      throws IndexOutOfBoundsException, IllegalArgumentException {
    Row row = setAt(set);
    requireEnds(from, to);
    if (!isStretch(from, to)) {
      return refuse();
    }
    row.tellStretch(from, to, is);
    return row.count();
  }

  public int drain(int set, int from, int to)
      throws IndexOutOfBoundsException, IllegalArgumentException {
    return fill(set, from, to, false);
  }

  public int turn(int set, int from, int to)
      throws IndexOutOfBoundsException, IllegalArgumentException {
    Row row = setAt(set);
    requireEnds(from, to);
    if (!isStretch(from, to)) {
      return refuse();
    }
    row.turnStretch(from, to);
    return row.count();
  }

  public int stretch(int set, int from, int to)
      throws IndexOutOfBoundsException, IllegalArgumentException {
    return fill(set, from, to, true);
  }

  public int empty(int set) throws IndexOutOfBoundsException {
    Row row = setAt(set);
    int had = row.count();
    row.becomeWords(0, 0);
    return had;
  }

  public int opposite(int set) throws IndexOutOfBoundsException {
    Row row = setAt(set);
    row.turnAll();
    return row.count();
  }

  public int copy(int from, int into) throws IndexOutOfBoundsException {
    Row source = setAt(from);
    Row target = setAt(into);
    target.become(source);
    return target.count();
  }

  public int part(int set, int from, int to, int into)
      throws IndexOutOfBoundsException, IllegalArgumentException {
    Row source = setAt(set);
    Row target = setAt(into);
    requireEnds(from, to);
    if (!isStretch(from, to)) {
      return refuse();
    }
    target.becomeStretch(source, from, to);
    return target.count();
  }

  public int words(int set, int low, int high) throws IndexOutOfBoundsException {
    Row row = setAt(set);
    // Unmasked, a low below 0 would fill the digits that are high's.
    row.becomeWords((low & LOWER_HALF) | ((long) high << 32), 0);
    return row.count();
  }

  // ---- two sets, families

  public int join(int set, int other) throws IndexOutOfBoundsException {
    Row row = setAt(set);
    row.joinWith(setAt(other));
    return row.count();
  }

  public int meet(int set, int other) throws IndexOutOfBoundsException {
    Row row = setAt(set);
    row.meetWith(setAt(other));
    return row.count();
  }

  public int less(int set, int other) throws IndexOutOfBoundsException {
    Row row = setAt(set);
    row.lessWith(setAt(other));
    return row.count();
  }

  public int odd(int set, int other) throws IndexOutOfBoundsException {
    Row row = setAt(set);
    row.oddWith(setAt(other));
    return row.count();
  }

  public int joinAll(int mask, int into)
      throws IndexOutOfBoundsException, IllegalArgumentException {
    Row row = setAt(into);
    requireWithin(mask, 0, ALL_SETS);
    row.become(joinOfFamily(mask));
    return row.count();
  }

  public int meetAll(int mask, int into)
      throws IndexOutOfBoundsException, IllegalArgumentException {
    Row row = setAt(into);
    requireWithin(mask, 0, ALL_SETS);
    row.become(meetOfFamily(mask));
    return row.count();
  }

  // ---- asking sets

  public int size(int set) throws IndexOutOfBoundsException {
    return setAt(set).count();
  }

  public int has(int set, int number) throws IndexOutOfBoundsException {
    Row row = setAt(set);
    if (number < 0) {
      return refuse();
    }
    return row.holds(number) ? 1 : 0;
  }

  public int find(int set, int at, int what)
      throws IndexOutOfBoundsException, IllegalArgumentException {
    Row row = setAt(set);
    requireWithin(what, 0, 3);
    boolean upwards = what <= 1;
    boolean held = what == 0 || what == 2;
    if (at < (upwards ? 0 : NONE)) {
      return refuse();
    }
    return upwards ? row.firstFrom(at, held) : row.lastUpTo(at, held);
  }

  public int length(int set) throws IndexOutOfBoundsException {
    return setAt(set).greatest() + 1;
  }

  public boolean isEmpty(int set) throws IndexOutOfBoundsException {
    return setAt(set).count() == 0;
  }

  public boolean touch(int set, int other) throws IndexOutOfBoundsException {
    Row row = setAt(set);
    return row.touches(setAt(other));
  }

  public boolean areSame(int set, int other) throws IndexOutOfBoundsException {
    Row row = setAt(set);
    return row.sameAs(setAt(other));
  }

  public boolean lies(int set, int other) throws IndexOutOfBoundsException {
    Row row = setAt(set);
    return row.liesIn(setAt(other));
  }

  public int code(int set) throws IndexOutOfBoundsException {
    return setAt(set).codeOfWords();
  }

  public String text(int set) throws IndexOutOfBoundsException {
    return setAt(set).written();
  }

  public int ofWords(int set, int what)
      throws IndexOutOfBoundsException, IllegalArgumentException {
    Row row = setAt(set);
    requireWithin(what, 0, 3);
    return what == 0 ? row.wordsNeeded() : row.thirdAt(what - 1);
  }

  public int rank(int set, int number)
      throws IndexOutOfBoundsException, IllegalArgumentException {
    Row row = setAt(set);
    requireWithin(number, 0, WORLD);
    return row.countBelow(number);
  }

  public int nth(int set, int n) throws IndexOutOfBoundsException, IllegalArgumentException {
    Row row = setAt(set);
    requireNotBelow(n, 0);
    return row.numberAt(n);
  }

  // ---- the sieve

  public int sieve(int upto) throws IllegalArgumentException {
    requireWithin(upto, 1, WORLD - 1);
    numbersLeft.begin(upto);
    return numbersLeft.remaining.count();
  }

  public int strike() {
    return numbersLeft.strikeNext();
  }

  public int left(int into) throws IndexOutOfBoundsException {
    Row row = setAt(into);
    row.become(numbersLeft.remaining);
    return row.count();
  }

  public int ofSieve(int what) throws IllegalArgumentException {
    requireWithin(what, 0, 2);
    if (what == 0) {
      return numbersLeft.bound;
    }
    return what == 1 ? numbersLeft.last : numbersLeft.remaining.count();
  }

  // ---- the relation

  public int relate(int from, int to, boolean is) throws IndexOutOfBoundsException {
    requirePoint(from);
    requirePoint(to);
    if (relation.leads(from, to) == is) {
      return 0;
    }
    relation.turnPair(from, to);
    return 1;
  }

  public int rowFrom(int point, int set) throws IndexOutOfBoundsException {
    requirePoint(point);
    Row row = setAt(set);
    relation.rows[point] = row.points();
    return Integer.bitCount(relation.rows[point]);
  }

  public int row(int point, int into) throws IndexOutOfBoundsException {
    requirePoint(point);
    Row row = setAt(into);
    row.becomeWords(relation.rows[point], 0);
    return row.count();
  }

  public int close() {
    int before = relation.pairs();
    relation.becomeClosed();
    return relation.pairs() - before;
  }

  public int converse() {
    relation.turnAround();
    return relation.pairs();
  }

  public int reach(int point, int into) throws IndexOutOfBoundsException {
    requirePoint(point);
    Row row = setAt(into);
    row.becomeWords(relation.reachedFrom(point), 0);
    return row.count();
  }

  public boolean isRelated(int from, int to) throws IndexOutOfBoundsException {
    requirePoint(from);
    requirePoint(to);
    return relation.leads(from, to);
  }

  public boolean isClosed() {
    return relation.isTransitive();
  }

  // ---- rules, walks

  public int rule(int rule, int set, int other) throws IndexOutOfBoundsException {
    requireRule(rule);
    Row condition = setAt(set);
    Row outcome = setAt(other);
    int was = rules.present[rule] ? 1 : 0;
    rules.define(rule, condition, outcome);
    return was;
  }

  public int noRule(int rule) throws IndexOutOfBoundsException {
    requireRule(rule);
    int was = rules.present[rule] ? 1 : 0;
    rules.present[rule] = false;
    return was;
  }

  public int make(int set) throws IndexOutOfBoundsException {
    Row row = setAt(set);
    int before = row.count();
    rules.applyTo(row);
    return row.count() - before;
  }

  public boolean keeps(int set) throws IndexOutOfBoundsException {
    return rules.areKeptBy(setAt(set));
  }

  public int walk(int set) throws IndexOutOfBoundsException {
    Row row = setAt(set);
    if (row.count() > MOST_WALKED) {
      return refuse();
    }
    parts.begin(row);
    return parts.howMany();
  }

  public int goOn() {
    return parts.step();
  }

  public int now(int into) throws IndexOutOfBoundsException {
    Row row = setAt(into);
    row.become(parts.current);
    return row.count();
  }

  // ---- all

  public int knock() {
    knocks++;
    return knocks;
  }

  public int house(int what) throws IllegalArgumentException {
    requireWithin(what, 0, 6);
    switch (what) {
      case 0:
        return sizesOfAll();
      case 1:
        return relation.pairs();
      case 2:
        return rules.howMany();
      case 3:
        return parts.gone;
      case 4:
        return parts.whole.count();
      case 5:
        return refusals;
      default:
        return knocks;
    }
  }

  public boolean isSound() {
    return setsAreSound()
        && theorems.holdForSieve(numbersLeft)
        && theorems.holdForRelation(relation)
        && rulesAreSound()
        && theorems.holdForWalk(parts);
  }

  public long digest() {
    long sum = 7832;
    for (int what = 0; what <= 6; what++) {
      sum = mixed(sum, house(what));
    }
    for (int set = 0; set < SETS; set++) {
      sum = mixedWithSet(sum, set);
    }
    for (int set = 0; set < SETS; set++) {
      for (int other = 0; other < SETS; other++) {
        sum = mixed(sum, areSame(set, other));
        sum = mixed(sum, lies(set, other));
        sum = mixed(sum, touch(set, other));
      }
    }
    for (int what = 0; what <= 2; what++) {
      sum = mixed(sum, ofSieve(what));
    }
    for (int from = 0; from < POINTS; from++) {
      for (int to = 0; to < POINTS; to++) {
        sum = mixed(sum, isRelated(from, to));
      }
    }
    sum = mixed(sum, isClosed());
    return mixed(sum, isSound());
  }

  private long mixedWithSet(long start, int set) {
    long sum = mixed(start, size(set));
    sum = mixed(sum, length(set));
    sum = mixed(sum, code(set));
    // The text itself is not made here: a run of digests would fill the room with texts.
    sum = mixed(sum, setAt(set).signs());
    for (int what = 0; what <= 3; what++) {
      sum = mixed(sum, ofWords(set, what));
    }
    for (int what = 0; what <= 3; what++) {
      sum = mixed(sum, find(set, 50, what));
    }
    sum = mixed(sum, keeps(set));
    sum = mixed(sum, rank(set, 48));
    return mixed(sum, nth(set, 3));
  }

  private static long mixed(long sum, long value) {
    return sum * 31 + value;
  }

  private static long mixed(long sum, boolean value) {
    return mixed(sum, value ? 1L : 0L);
  }

  // ---- wrong inputs

  private Row setAt(int set) {
    if (set < 0 || set >= SETS) {
      throw new IndexOutOfBoundsException("no such set");
    }
    return sets[set];
  }

  private static void requirePoint(int point) {
    if (point < 0 || point >= POINTS) {
      throw new IndexOutOfBoundsException("no such point");
    }
  }

  private static void requireRule(int rule) {
    if (rule < 0 || rule >= RULES) {
      throw new IndexOutOfBoundsException("no such rule");
    }
  }

  private static void requireWithin(int value, int least, int greatest) {
    requireNotBelow(value, least);
    requireNotAbove(value, greatest);
  }

  private static void requireNotBelow(int value, int least) {
    if (value < least) {
      throw new IllegalArgumentException("less than there can be");
    }
  }

  private static void requireNotAbove(int value, int greatest) {
    if (value > greatest) {
      throw new IllegalArgumentException("more than there can be");
    }
  }

  private static void requireEnds(int from, int to) {
    requireNotAbove(from, WORLD);
    requireNotAbove(to, WORLD);
  }

  private static boolean isStretch(int from, int to) {
    return from >= 0 && from <= to;
  }

  private int refuse() {
    refusals++;
    return REFUSED;
  }

  // ---- all sets at once

  /** The family's row is made apart, since the set that becomes it may be one of the family. */
  private Row joinOfFamily(int mask) {
    family.becomeWords(0, 0);
    for (int set = 0; set < SETS; set++) {
      if ((mask >> set & 1) == 1) {
        family.joinWith(sets[set]);
      }
    }
    return family;
  }

  private Row meetOfFamily(int mask) {
    family.becomeWords(0, 0);
    family.turnAll();
    for (int set = 0; set < SETS; set++) {
      if ((mask >> set & 1) == 1) {
        family.meetWith(sets[set]);
      }
    }
    return family;
  }

  private int sizesOfAll() {
    int sum = 0;
    for (int set = 0; set < SETS; set++) {
      sum += sets[set].count();
    }
    return sum;
  }

  private boolean setsAreSound() {
    for (int set = 0; set < SETS; set++) {
      if (!theorems.holdForSet(sets[set]) || !pairsAreSound(sets[set])) {
        return false;
      }
    }
    return familyIsSound();
  }

  private boolean pairsAreSound(Row row) {
    for (int other = 0; other < SETS; other++) {
      if (!theorems.holdForPair(row, sets[other])) {
        return false;
      }
    }
    return true;
  }

  private boolean familyIsSound() {
    for (int set = 0; set < SETS; set++) {
      if (!sets[set].liesIn(joinOfFamily(ALL_SETS))
          || !meetOfFamily(ALL_SETS).liesIn(sets[set])) {
        return false;
      }
    }
    return true;
  }

  private boolean rulesAreSound() {
    for (int set = 0; set < SETS; set++) {
      if (!theorems.holdForMade(rules, sets[set], sets)) {
        return false;
      }
    }
    return true;
  }

  /** A set of numbers of the WORLD: low holds 0 to 63, the lower half of high holds 64 to 95. */
  private static final class Row {
    private long low;
    private long high;

    /** Of low, the digits of all numbers below a number. */
    private static long lowBelow(int number) {
      return number >= WORD ? -1L : (1L << number) - 1;
    }

    /** Of high, the digits of all numbers below a number. */
    private static long highBelow(int number) {
      return number <= WORD ? 0L : (1L << (number - WORD)) - 1;
    }

    private static long lowOfStretch(int from, int to) {
      return lowBelow(to) & ~lowBelow(from);
    }

    private static long highOfStretch(int from, int to) {
      return highBelow(to) & ~highBelow(from);
    }

    void become(Row source) {
      low = source.low;
      high = source.high;
    }

    void becomeWords(long newLow, long newHigh) {
      low = newLow;
      high = newHigh;
    }

    /** Becomes what the source, which may be this row, has in a stretch, moved down by its from. */
    void becomeStretch(Row source, int from, int to) {
      long lower = source.low & lowOfStretch(from, to);
      long upper = source.high & highOfStretch(from, to);
      if (from >= WORD) {
        becomeWords(upper >>> (from - WORD), 0);
      } else if (from > 0) {
        becomeWords((lower >>> from) | (upper << (WORD - from)), upper >>> from);
      } else {
        // A shift by a whole word would shift by nothing, so a stretch from 0 is kept apart.
        becomeWords(lower, upper);
      }
    }

    void tellStretch(int from, int to, boolean is) {
      if (is) {
        low |= lowOfStretch(from, to);
        high |= highOfStretch(from, to);
      } else {
        low &= ~lowOfStretch(from, to);
        high &= ~highOfStretch(from, to);
      }
    }

    void turnStretch(int from, int to) {
      low ^= lowOfStretch(from, to);
      high ^= highOfStretch(from, to);
    }

    void turnAll() {
      becomeWords(~low, high ^ LOWER_HALF);
    }

    void joinWith(Row other) {
      low |= other.low;
      high |= other.high;
    }

    void meetWith(Row other) {
      low &= other.low;
      high &= other.high;
    }

    void lessWith(Row other) {
      becomeWords(low & ~other.low, high & ~other.high);
    }

    void oddWith(Row other) {
      becomeWords(low ^ other.low, high ^ other.high);
    }

    boolean holds(int number) {
      if (number < 0 || number >= WORLD) {
        return false;
      }
      return number < WORD ? (low >>> number & 1) == 1 : (high >>> (number - WORD) & 1) == 1;
    }

    boolean liesIn(Row other) {
      return (low & ~other.low) == 0 && (high & ~other.high) == 0;
    }

    boolean touches(Row other) {
      return (low & other.low) != 0 || (high & other.high) != 0;
    }

    boolean sameAs(Row other) {
      return low == other.low && high == other.high;
    }

    int count() {
      return Long.bitCount(low) + Long.bitCount(high);
    }

    int countBelow(int number) {
      return Long.bitCount(low & lowBelow(number)) + Long.bitCount(high & highBelow(number));
    }

    /** The number with that many others of this row below it. */
    int numberAt(int place) {
      int ofLow = Long.bitCount(low);
      if (place < ofLow) {
        return digitAt(low, place);
      }
      if (place - ofLow < Long.bitCount(high)) {
        return WORD + digitAt(high, place - ofLow);
      }
      return NONE;
    }

    private static int digitAt(long word, int place) {
      long rest = word;
      for (int gone = 0; gone < place; gone++) {
        rest &= rest - 1;
      }
      return Long.bitCount(~rest & (rest - 1));
    }

    int firstFrom(int at, boolean held) {
      for (int number = at; number < WORLD; number++) {
        if (holds(number) == held) {
          return number;
        }
      }
      return held ? NONE : Math.max(at, WORLD);
    }

    int lastUpTo(int at, boolean held) {
      if (at >= WORLD && !held) {
        return at;
      }
      for (int number = Math.min(at, WORLD - 1); number >= 0; number--) {
        if (holds(number) == held) {
          return number;
        }
      }
      return NONE;
    }

    int greatest() {
      return lastUpTo(WORLD - 1, true);
    }

    int wordsNeeded() {
      if (high != 0) {
        return 2;
      }
      return low != 0 ? 1 : 0;
    }

    /** The 32 digits of the first, second or last third of the WORLD. */
    int thirdAt(int third) {
      if (third == 0) {
        return (int) low;
      }
      return third == 1 ? (int) (low >>> 32) : (int) high;
    }

    int codeOfWords() {
      long sum = 1234 ^ low ^ 2 * high;
      return (int) (sum >>> 32) ^ (int) sum;
    }

    int points() {
      return (int) (low & ALL_POINTS);
    }

    String written() {
      StringBuilder text = new StringBuilder();
      text.append('{');
      for (int number = 0; number < WORLD; number++) {
        if (holds(number)) {
          if (text.length() > 1) {
            text.append(", ");
          }
          text.append(number);
        }
      }
      text.append('}');
      return text.toString();
    }

    /** How long the written row is: of each number one or two signs, and two signs between. */
    int signs() {
      int numbers = count();
      return numbers == 0 ? 2 : 4 * numbers - countBelow(10);
    }
  }

  /** What is LEFT of the numbers from 2 to a bound. */
  private static final class Sieve {
    private final Row remaining = new Row();
    private int bound = 1;
    private int last = 1;

    void begin(int upto) {
      bound = upto;
      last = 1;
      remaining.becomeWords(0, 0);
      remaining.tellStretch(2, upto + 1, true);
    }

    int strikeNext() {
      int next = remaining.firstFrom(last + 1, true);
      if (next <= last) {
        return NONE;
      }
      last = next;
      for (int multiple = 2 * next; multiple <= bound; multiple += next) {
        remaining.tellStretch(multiple, multiple + 1, false);
      }
      return last;
    }
  }

  /** A RELATION of the POINTS: of each point the points to which a pair leads from it. */
  private static final class Relation {
    private final int[] rows = new int[POINTS];

    void become(Relation source) {
      System.arraycopy(source.rows, 0, rows, 0, POINTS);
    }

    boolean leads(int from, int to) {
      return (rows[from] >> to & 1) == 1;
    }

    void turnPair(int from, int to) {
      rows[from] ^= 1 << to;
    }

    int pairs() {
      int sum = 0;
      for (int point = 0; point < POINTS; point++) {
        sum += Integer.bitCount(rows[point]);
      }
      return sum;
    }

    /** Adds all paths that lead through points 0 to through, for each through in turn. */
    void becomeClosed() {
      for (int through = 0; through < POINTS; through++) {
        for (int from = 0; from < POINTS; from++) {
          if (leads(from, through)) {
            rows[from] |= rows[through];
          }
        }
      }
    }

    void turnAround() {
      for (int from = 0; from < POINTS; from++) {
        for (int to = 0; to < from; to++) {
          if (leads(from, to) != leads(to, from)) {
            turnPair(from, to);
            turnPair(to, from);
          }
        }
      }
    }

    /** No path needs more pairs than there are points, so that many rounds reach all. */
    int reachedFrom(int point) {
      int reached = rows[point];
      for (int round = 1; round < POINTS; round++) {
        int further = reached;
        for (int through = 0; through < POINTS; through++) {
          if ((reached >> through & 1) == 1) {
            further |= rows[through];
          }
        }
        reached = further;
      }
      return reached;
    }

    boolean isTransitive() {
      for (int from = 0; from < POINTS; from++) {
        for (int through = 0; through < POINTS; through++) {
          if (leads(from, through) && (rows[through] & ~rows[from]) != 0) {
            return false;
          }
        }
      }
      return true;
    }

    boolean hasAllOf(Relation other) {
      for (int point = 0; point < POINTS; point++) {
        if ((other.rows[point] & ~rows[point]) != 0) {
          return false;
        }
      }
      return true;
    }
  }

  /** The RULES, each with an IF (its condition) and a THEN (its outcome). */
  private static final class Rules {
    private final Row[] conditions = new Row[RULES];
    private final Row[] outcomes = new Row[RULES];
    private final boolean[] present = new boolean[RULES];

    Rules() {
      for (int rule = 0; rule < RULES; rule++) {
        conditions[rule] = new Row();
        outcomes[rule] = new Row();
      }
    }

    void define(int rule, Row condition, Row outcome) {
      conditions[rule].become(condition);
      outcomes[rule].become(outcome);
      present[rule] = true;
    }

    int howMany() {
      int sum = 0;
      for (int rule = 0; rule < RULES; rule++) {
        sum += present[rule] ? 1 : 0;
      }
      return sum;
    }

    private boolean isKept(int rule, Row row) {
      return !present[rule] || !conditions[rule].liesIn(row) || outcomes[rule].liesIn(row);
    }

    boolean areKeptBy(Row row) {
      for (int rule = 0; rule < RULES; rule++) {
        if (!isKept(rule, row)) {
          return false;
        }
      }
      return true;
    }

    /** A rule that was applied stays kept, so as many rounds as there are rules are enough. */
    void applyTo(Row row) {
      for (int round = 0; round < RULES; round++) {
        for (int rule = 0; rule < RULES; rule++) {
          if (!isKept(rule, row)) {
            row.joinWith(outcomes[rule]);
          }
        }
      }
    }
  }

  /** A WALK through the PARTS of a set, each step putting in or taking out one number. */
  private static final class Walk {
    private final Row whole = new Row();
    private final Row current = new Row();
    private int gone;

    void begin(Row row) {
      whole.become(row);
      current.becomeWords(0, 0);
      gone = 0;
    }

    int howMany() {
      return 1 << whole.count();
    }

    int step() {
      if (gone >= howMany() - 1) {
        return NONE;
      }
      gone++;
      int halvings = Integer.bitCount(~gone & (gone - 1));
      int number = whole.numberAt(halvings);
      current.turnStretch(number, number + 1);
      return number;
    }
  }

  /** What isSound() asks, told anew in rows that are kept for it, so that nothing changes. */
  private static final class Theorems {
    private final Row joined = new Row();
    private final Row met = new Row();
    private final Row turned = new Row();
    private final Row otherTurned = new Row();
    private final Row scratch = new Row();
    private final Relation closure = new Relation();
    private final Walk again = new Walk();

    boolean holdForPair(Row row, Row other) {
      joined.become(row);
      joined.joinWith(other);
      met.become(row);
      met.meetWith(other);
      return sizesAgree(row, other) && turnedAgree(row, other) && oddAgrees(row, other);
    }

    private boolean sizesAgree(Row row, Row other) {
      return joined.count() + met.count() == row.count() + other.count();
    }

    /** The join turned is the meet of both turned, and the meet turned is the join of both. */
    private boolean turnedAgree(Row row, Row other) {
      turned.become(row);
      turned.turnAll();
      otherTurned.become(other);
      otherTurned.turnAll();
      scratch.become(turned);
      scratch.meetWith(otherTurned);
      scratch.turnAll();
      if (!scratch.sameAs(joined)) {
        return false;
      }
      scratch.become(turned);
      scratch.joinWith(otherTurned);
      scratch.turnAll();
      return scratch.sameAs(met);
    }

    private boolean oddAgrees(Row row, Row other) {
      scratch.become(joined);
      scratch.lessWith(met);
      turned.become(row);
      turned.oddWith(other);
      return turned.sameAs(scratch)
          && turned.count() == row.count() + other.count() - 2 * met.count();
    }

    boolean holdForSet(Row row) {
      turned.become(row);
      turned.turnAll();
      turned.turnAll();
      if (!turned.sameAs(row)) {
        return false;
      }
      for (int number = 0; number < WORLD; number++) {
        if (row.holds(number) && row.numberAt(row.countBelow(number)) != number) {
          return false;
        }
      }
      return true;
    }

    /** Left is just what has no divisor from 2 to the last one struck with, but itself. */
    boolean holdForSieve(Sieve sieve) {
      for (int number = 0; number < WORLD; number++) {
        boolean due = number >= 2 && number <= sieve.bound && !isStruck(number, sieve.last);
        if (sieve.remaining.holds(number) != due) {
          return false;
        }
      }
      return true;
    }

    private static boolean isStruck(int number, int last) {
      for (int divisor = 2; divisor <= last && divisor < number; divisor++) {
        if (number % divisor == 0) {
          return true;
        }
      }
      return false;
    }

    boolean holdForRelation(Relation relation) {
      closure.become(relation);
      closure.becomeClosed();
      for (int point = 0; point < POINTS; point++) {
        if (closure.rows[point] != relation.reachedFrom(point)) {
          return false;
        }
      }
      return closure.hasAllOf(relation) && closure.isTransitive();
    }

    boolean holdForMade(Rules rules, Row row, Row[] sets) {
      joined.become(row);
      rules.applyTo(joined);
      scratch.become(joined);
      rules.applyTo(scratch);
      if (!row.liesIn(joined) || !rules.areKeptBy(joined) || !scratch.sameAs(joined)) {
        return false;
      }
      for (int set = 0; set < sets.length; set++) {
        boolean isBound = row.liesIn(sets[set]) && rules.areKeptBy(sets[set]);
        if (isBound && !joined.liesIn(sets[set])) {
          return false;
        }
      }
      return true;
    }

    boolean holdForWalk(Walk walk) {
      again.begin(walk.whole);
      for (int step = 0; step < walk.gone; step++) {
        again.step();
      }
      return walk.current.liesIn(walk.whole) && again.current.sameAs(walk.current);
    }
  }
}
