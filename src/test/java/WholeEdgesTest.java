import java.math.BigInteger;

/** Promises 53 to 56 and what the document says of all of them, sentence by sentence at edges. */
public final class WholeEdgesTest {
  private static final int CALLS = 512;

  // ---- objects at an edge

  private static Setsieve allSetsWhole() {
    Setsieve x = new Setsieve();
    for (int set = 0; set < 6; set++) {
      x.stretch(set, 0, 96);
    }
    return x;
  }

  private static Setsieve allPairs() {
    Setsieve x = Checks.whole();
    for (int point = 0; point < 12; point++) {
      x.rowFrom(point, 0);
    }
    return x;
  }

  private static Setsieve ring() {
    Setsieve x = new Setsieve();
    for (int point = 0; point < 12; point++) {
      x.relate(point, (point + 1) % 12, true);
    }
    return x;
  }

  /** Eight RULES, the first one with an IF of none, another one with a THEN of none. */
  private static Setsieve allRules() {
    Setsieve x = new Setsieve();
    x.put(1, 0);
    x.put(2, 95);
    x.stretch(3, 63, 65);
    x.stretch(4, 0, 96);
    for (int rule = 0; rule < 8; rule++) {
      x.rule(rule, rule % 6, (rule + 1) % 6);
    }
    return x;
  }

  private static Setsieve walked(int numbers, int steps) {
    Setsieve x = new Setsieve();
    x.stretch(0, 96 - numbers, 96);
    x.walk(0);
    for (int step = 0; step < steps; step++) {
      x.goOn();
    }
    return x;
  }

  private static Setsieve begun(int upto, int strikes) {
    Setsieve x = new Setsieve();
    x.sieve(upto);
    for (int strike = 0; strike < strikes; strike++) {
      x.strike();
    }
    return x;
  }

  private static Checks.Made[] edges() {
    return new Checks.Made[] {
      Setsieve::new, Checks::busy, Checks::whole, () -> Checks.with(0), () -> Checks.with(95),
      () -> Checks.with(31, 32, 63, 64), WholeEdgesTest::allSetsWhole, WholeEdgesTest::allPairs,
      WholeEdgesTest::ring, WholeEdgesTest::allRules, () -> walked(0, 1), () -> walked(1, 1),
      () -> walked(5, 40), () -> walked(10, 0), () -> walked(10, 130), () -> begun(1, 1),
      () -> begun(2, 0), () -> begun(2, 2), () -> begun(95, 0), () -> begun(95, 1),
      () -> begun(95, 24), () -> begun(95, 25),
    };
  }

  // ---- knocks and counts

  private static void knock() {
    Checks.says("53 knock", "Returns how often one knocked, with this");
    Setsieve x = new Setsieve();
    Checks.due("the first one", x.knock(), 1);
    Checks.due("the second one", x.knock(), 2);
    x.has(0, -1);
    Checks.answer(x, y -> y.size(6));
    x.empty(0);
    Checks.due("the third one", x.knock(), 3);
    Checks.due("of another object", new Setsieve().knock(), 1);
    Checks.due("REFUSED was told", x.house(5), 1);
  }

  private static void house() {
    int[][] due = {
      {0, 0, 0, 0, 0, 0, 0},
      {115, 4, 3, 3, 5, 1, 1},
      {96, 0, 0, 0, 0, 0, 0},
      {1, 0, 0, 0, 0, 0, 0},
      {1, 0, 0, 0, 0, 0, 0},
      {4, 0, 0, 0, 0, 0, 0},
      {576, 0, 0, 0, 0, 0, 0},
      {96, 144, 0, 0, 0, 0, 0},
      {0, 12, 0, 0, 0, 0, 0},
      {100, 0, 8, 0, 0, 0, 0},
      {0, 0, 0, 0, 0, 0, 0},
      {1, 0, 0, 1, 1, 0, 0},
      {5, 0, 0, 31, 5, 0, 0},
      {10, 0, 0, 0, 10, 0, 0},
      {10, 0, 0, 130, 10, 0, 0},
    };
    String[] asked = {
      "0 how many numbers all SETS have", "1 how many pairs the RELATION has",
      "2 how many RULES there are", "3 GONE", "4 how many numbers the set of the WALK has",
      "5 how often REFUSED was told", "6 how often one knocked",
    };
    for (int what = 0; what <= 6; what++) {
      Checks.says("54 house", asked[what]);
      for (int edge = 0; edge < due.length; edge++) {
        Setsieve x = edges()[edge].anew();
        Checks.due("of object " + edge, x.house(what), due[edge][what]);
        Checks.due("of object " + edge + ", again", x.house(what), due[edge][what]);
      }
    }

    Checks.says("54 house", "5 how often REFUSED was told");
    Setsieve x = allSetsWhole();
    Checks.Call[] refused = {
      y -> y.put(0, -1), y -> y.drop(0, -1), y -> y.flip(0, -1), y -> y.tell(0, -1, true),
      y -> y.fill(0, 1, 0, true), y -> y.drain(0, 1, 0), y -> y.turn(0, 1, 0),
      y -> y.stretch(0, 1, 0), y -> y.part(0, 1, 0, 1), y -> y.has(0, -1),
      y -> y.find(0, -1, 0), y -> y.find(0, -2, 3), y -> y.walk(0),
    };
    for (int k = 0; k < refused.length; k++) {
      Checks.due("call " + k, refused[k].on(x), Checks.REFUSED);
      Checks.due("after call " + k, x.house(5), k + 1);
    }
    Checks.due("NONE is not REFUSED", x.strike() + x.goOn() + x.nth(0, 96) + x.find(0, 96, 0), -4);
    Checks.answer(x, y -> y.put(0, 96));
    Checks.answer(x, y -> y.put(6, -1));
    Checks.answer(x, y -> y.find(0, -1, 4));
    Checks.due("in the end", x.house(5), refused.length);

    Checks.says("54 house", "Throws IllegalArgumentException if what is not 0 to 6");
    Checks.wrongOutside("what", 0, 6, (y, what) -> y.house(what));
  }

  // ---- soundness and the checksum

  private static void isSound() {
    Checks.says("55 isSound", "Returns whether all of this is so (nothing changes)");
    Checks.Made[] edges = edges();
    for (int edge = 0; edge < edges.length; edge++) {
      Checks.unchanged("of object " + edge, edges[edge], x -> x.isSound(), true);
      Setsieve x = edges[edge].anew();
      long before = x.digest();
      Checks.due("of object " + edge, x.isSound(), true);
      Checks.due("the digest of object " + edge, x.digest(), before);
    }
    Setsieve x = Checks.busy();
    x.isSound();
    Checks.due("a JOIN after it", x.joinAll(12, 4), 3);
    x.isSound();
    Checks.due("a MEET after it", x.meetAll(0, 4), 96);
  }

  /** The sum without wrapping around, told by the other answers; it makes some 360 calls. */
  private static BigInteger wholeSum(Setsieve x) {
    StringBuilder values = new StringBuilder();
    for (int what = 0; what <= 6; what++) {
      add(values, x.house(what));
    }
    for (int set = 0; set < 6; set++) {
      addSet(values, x, set);
    }
    for (int set = 0; set < 6; set++) {
      for (int other = 0; other < 6; other++) {
        add(values, x.areSame(set, other) ? 1 : 0);
        add(values, x.lies(set, other) ? 1 : 0);
        add(values, x.touch(set, other) ? 1 : 0);
      }
    }
    for (int what = 0; what <= 2; what++) {
      add(values, x.ofSieve(what));
    }
    for (int from = 0; from < 12; from++) {
      for (int to = 0; to < 12; to++) {
        add(values, x.isRelated(from, to) ? 1 : 0);
      }
    }
    add(values, x.isClosed() ? 1 : 0);
    add(values, x.isSound() ? 1 : 0);
    BigInteger sum = BigInteger.valueOf(7832);
    for (String value : values.toString().trim().split(" ")) {
      sum = sum.multiply(BigInteger.valueOf(31)).add(new BigInteger(value));
    }
    return sum;
  }

  private static void addSet(StringBuilder values, Setsieve x, int set) {
    add(values, x.size(set));
    add(values, x.length(set));
    add(values, x.code(set));
    add(values, x.text(set).length());
    for (int what = 0; what <= 3; what++) {
      add(values, x.ofWords(set, what));
    }
    for (int what = 0; what <= 3; what++) {
      add(values, x.find(set, 50, what));
    }
    add(values, x.keeps(set) ? 1 : 0);
    add(values, x.rank(set, 48));
    add(values, x.nth(set, 3));
  }

  private static void add(StringBuilder values, int value) {
    values.append(value).append(' ');
  }

  private static void digest() {
    Checks.says("56 digest", "A number d starts with 7832");
    Checks.due("of a new one", new Setsieve().digest(), -5813640429834190760L);

    Checks.says("56 digest", "wraps around as a 64-bit integer");
    Checks.Made[] edges = edges();
    int above = 0;
    int below = 0;
    for (int edge = 0; edge < edges.length; edge++) {
      BigInteger sum = wholeSum(edges[edge].anew());
      long got = edges[edge].anew().digest();
      Checks.due("of object " + edge, got, sum.longValue());
      Checks.due("the sum of object " + edge + " is long", sum.bitLength() > 1000, true);
      above += got > 0 ? 1 : 0;
      below += got < 0 ? 1 : 0;
    }
    Checks.due("some wrap to above 0, some to below", above > 0 && below > 0, true);

    Checks.says("56 digest", "Computes a checksum (and changes nothing)");
    for (int edge = 0; edge < edges.length; edge++) {
      long due = edges[edge].anew().digest();
      Checks.unchanged("of object " + edge, edges[edge], x -> x.digest(), due);
    }

    Checks.says("56 digest", "for each v in this order");
    Checks.Call[] changes = {
      y -> y.has(0, -1), y -> y.knock(), y -> y.put(4, 95), y -> y.flip(0, 0), y -> y.goOn(),
      y -> y.strike(), y -> y.sieve(95), y -> y.relate(11, 11, true), y -> y.noRule(7),
      y -> y.walk(4), y -> y.put(4, 50),
    };
    for (int k = 0; k < changes.length; k++) {
      Setsieve x = Checks.busy();
      changes[k].on(x);
      Checks.due("after change " + k, x.digest() == Checks.busy().digest(), false);
    }
  }

  // ---- 512 calls

  private static void calls() {
    Checks.says("Setsieve", "An object is used for at most 512 calls");
    Setsieve x = new Setsieve();
    for (int call = 1; call <= CALLS; call++) {
      Checks.due("knock() as call " + call, x.knock(), call);
    }
    x = new Setsieve();
    for (int call = 1; call < CALLS; call++) {
      Checks.due("has(0, -1) as call " + call, x.has(0, -1), Checks.REFUSED);
    }
    Checks.due("house(5) as call 512", x.house(5), CALLS - 1);
    x = new Setsieve();
    for (int call = 1; call < CALLS; call++) {
      Checks.due("put(0, 96) as call " + call, Checks.answer(x, y -> y.put(0, 96)), Checks.WRONG);
    }
    Checks.due("digest() as call 512", x.digest(), new Setsieve().digest());
    x = walked(10, CALLS - 3);
    Checks.due("house(3) as call 512", x.house(3), CALLS - 3);
    x = walked(10, CALLS - 3);
    Checks.due("goOn() as call 512", x.goOn(), 87);
    x = Checks.busy();
    long due = x.digest();
    for (int call = 1; call < 400; call++) {
      Checks.due("digest() once more", x.digest(), due);
    }
    x = allSetsWhole();
    for (int call = 7; call <= CALLS; call++) {
      Checks.due("text(5) as call " + call, x.text(5), Checks.WHOLE);
    }
    x = allRules();
    for (int call = 1; call < 400; call++) {
      Checks.due("isSound() once more", x.isSound(), true);
    }
  }

  // ---- what all methods have in common

  private static void exceptions() {
    Checks.says("Setsieve", "A method that throws an exception changes nothing");
    Checks.Call[] calls = {
      y -> y.copy(5, 6), y -> y.copy(-1, 0), y -> y.join(0, 6), y -> y.meet(0, 6),
      y -> y.less(0, 6), y -> y.odd(0, 6), y -> y.part(0, 0, 9, 6), y -> y.part(6, 0, 9, 0),
      y -> y.joinAll(63, 6), y -> y.meetAll(0, -1), y -> y.words(6, -1, -1), y -> y.left(6),
      y -> y.row(0, 6), y -> y.row(12, 0), y -> y.rowFrom(0, 6), y -> y.rowFrom(12, 0),
      y -> y.reach(0, 6), y -> y.reach(12, 0), y -> y.rule(1, 0, 6), y -> y.rule(1, 6, 0),
      y -> y.rule(0, 0, 6), y -> y.rule(0, 6, 0), y -> y.rule(8, 0, 0), y -> y.noRule(8),
      y -> y.relate(0, 12, true), y -> y.relate(0, 12, false), y -> y.relate(12, 0, true),
      y -> y.make(6), y -> y.walk(6), y -> y.now(6), y -> y.empty(6), y -> y.opposite(6),
    };
    for (int k = 0; k < calls.length; k++) {
      Checks.throwsIt("call " + k, Checks.NO_PLACE, calls[k]);
    }
    Checks.Call[] wrong = {
      y -> y.put(0, 96), y -> y.drop(0, 96), y -> y.flip(0, 96), y -> y.tell(0, 96, false),
      y -> y.fill(0, 0, 97, true), y -> y.drain(0, 0, 97), y -> y.turn(0, 0, 97),
      y -> y.stretch(0, 0, 97), y -> y.part(0, 0, 97, 1), y -> y.joinAll(64, 0),
      y -> y.meetAll(64, 0), y -> y.sieve(96), y -> y.sieve(0), y -> y.ofSieve(3),
      y -> y.find(0, 0, 4), y -> y.ofWords(0, 4), y -> y.rank(0, 97), y -> y.nth(0, -1),
      y -> y.house(7),
    };
    for (int k = 0; k < wrong.length; k++) {
      Checks.throwsIt("call " + k, Checks.WRONG, wrong[k]);
    }
  }

  public static void main(String[] args) {
    knock();
    house();
    isSound();
    digest();
    calls();
    exceptions();
    Checks.end();
  }
}
