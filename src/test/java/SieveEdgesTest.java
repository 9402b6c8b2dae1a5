/** Promises 34 to 45, the sieve and the relation, sentence by sentence at the edges. */
public final class SieveEdgesTest {
  private static final int[] PRIMES = {
    2, 3, 5, 7, 11, 13, 17, 19, 23, 29, 31, 37, 41, 43, 47, 53, 59, 61, 67, 71, 73, 79, 83, 89,
  };

  private static Setsieve begun(int upto, int strikes) {
    Setsieve x = new Setsieve();
    x.sieve(upto);
    for (int strike = 0; strike < strikes; strike++) {
      x.strike();
    }
    return x;
  }

  private static String left(Setsieve x) {
    x.left(0);
    return x.text(0);
  }

  // ---- the sieve

  private static void sieve() {
    Checks.says("34 sieve", "Returns how many are LEFT (2 to UPTO)");
    for (int upto : new int[] {1, 2, 3, 4, 62, 63, 64, 65, 94, 95}) {
      Setsieve x = new Setsieve();
      Checks.due("sieve(" + upto + ")", x.sieve(upto), upto - 1);
      Checks.due("ofSieve(2)", x.ofSieve(2), upto - 1);
      x.left(0);
      Checks.due("its least", x.nth(0, 0), upto < 2 ? Checks.NONE : 2);
      Checks.due("its greatest", x.length(0), upto < 2 ? 0 : upto + 1);
    }

    Checks.says("34 sieve", "As it begins, UPTO is told, LAST is 1, and LEFT are 2 to UPTO");
    Setsieve x = begun(95, 25);
    Checks.due("sieve(5), anew", x.sieve(5), 4);
    Checks.due("UPTO", x.ofSieve(0), 5);
    Checks.due("LAST", x.ofSieve(1), 1);
    Checks.due("LEFT", left(x), "{2, 3, 4, 5}");
    Checks.due("sieve(1), anew", x.sieve(1), 0);
    Checks.due("UPTO", x.ofSieve(0), 1);
    Checks.due("LEFT", left(x), "{}");
    Checks.due("sieve(95), anew", x.sieve(95), 94);
    Checks.due("UPTO", x.ofSieve(0), 95);
    Checks.due("strike()", x.strike(), 2);

    Checks.says("34 sieve", "Throws IllegalArgumentException if upto is not 1 to 95");
    Checks.wrongOutside("upto", 1, 95, (y, upto) -> y.sieve(upto));
    Checks.throwsIt("-1", Checks.WRONG, y -> y.sieve(-1));
    Checks.throwsIt("97", Checks.WRONG, y -> y.sieve(97));
  }

  private static void strike() {
    Checks.says("35 strike", "Returns LAST then");
    Setsieve x = begun(95, 0);
    for (int prime : PRIMES) {
      Checks.due("strike()", x.strike(), prime);
      Checks.due("LAST", x.ofSieve(1), prime);
    }
    Checks.due("LEFT", x.ofSieve(2), PRIMES.length);

    Checks.says("35 strike", "all 2 * p, 3 * p, .. that are UPTO at most are LEFT no more");
    Checks.due("2 * 2 is UPTO", left(begun(4, 1)), "{2, 3}");
    Checks.due("2 * 2 is above UPTO", left(begun(3, 1)), "{2, 3}");
    Checks.due("3 * 3 is UPTO", left(begun(9, 2)), "{2, 3, 5, 7}");
    Checks.due("3 * 3 is above UPTO", left(begun(8, 2)), "{2, 3, 5, 7}");
    Checks.due("3 * 3 before it is struck", left(begun(9, 1)), "{2, 3, 5, 7, 9}");
    Checks.due("95 before 5", begun(95, 2).ofSieve(2), 33);
    x = begun(95, 3);
    x.left(0);
    Checks.due("95, which is 19 * 5", x.has(0, 95), 0);
    Checks.due("91, which is 13 * 7, before 7", x.has(0, 91), 1);
    x.strike();
    x.left(0);
    Checks.due("91, which is 13 * 7", x.has(0, 91), 0);
    Checks.due("how many then", x.size(0), 24);

    Checks.says("35 strike", "NONE, if there is no number to strike with (nothing changes)");
    Checks.unchanged("of a new one", Setsieve::new, y -> y.strike(), Checks.NONE);
    Checks.unchanged("of UPTO 1", () -> begun(1, 0), y -> y.strike(), Checks.NONE);
    Checks.unchanged("of UPTO 2, then", () -> begun(2, 1), y -> y.strike(), Checks.NONE);
    Checks.unchanged("of UPTO 95, then", () -> begun(95, 24), y -> y.strike(), Checks.NONE);
    Checks.unchanged("once more", () -> begun(95, 25), y -> y.strike(), Checks.NONE);
    Checks.due("the last one there is", begun(95, 23).strike(), 89);
    Checks.due("of UPTO 2", begun(2, 0).strike(), 2);
    Checks.due("UPTO is the last one", begun(3, 1).strike(), 3);
    Checks.due("UPTO is struck", begun(4, 2).strike(), Checks.NONE);
    x = begun(2, 4);
    Checks.due("LAST then", x.ofSieve(1), 2);
    Checks.due("REFUSED was told", x.house(5), 0);
  }

  private static void left() {
    Checks.says("36 left", "Returns how many numbers it has then");
    for (int set = 0; set < 6; set += 5) {
      int into = set;
      Setsieve x = Checks.whole();
      x.stretch(5, 0, 96);
      Checks.due("of a new one", x.left(into), 0);
      Checks.due("text", x.text(into), "{}");
      x.sieve(95);
      Checks.due("all", x.left(into), 94);
      Checks.due("its ends", x.has(into, 1) + x.has(into, 2) + x.has(into, 95), 2);
      x.sieve(3);
      Checks.due("few", x.left(into), 2);
      Checks.due("text", x.text(into), "{2, 3}");
      x.empty(into);
      x.put(into, 9);
      Checks.due("what is LEFT stays", x.ofSieve(2), 2);
      x.strike();
      Checks.due("the set stays", x.text(into), "{9}");
    }

    Checks.says("36 left", "Throws IndexOutOfBoundsException if there is no such SET");
    Checks.noSuchSet("set", (y, set) -> y.left(set));
  }

  private static void ofSieve() {
    Checks.says("37 ofSieve", "Returns what 0 UPTO, 1 LAST, 2 how many are LEFT");
    int[][] asked = {
      {1, 0, 1, 1, 0}, {2, 0, 2, 1, 1}, {2, 1, 2, 2, 1}, {2, 2, 2, 2, 1}, {95, 0, 95, 1, 94},
      {95, 1, 95, 2, 48}, {95, 24, 95, 89, 24}, {95, 25, 95, 89, 24}, {10, 2, 10, 3, 4},
    };
    for (int[] row : asked) {
      Setsieve x = begun(row[0], row[1]);
      for (int what = 0; what <= 2; what++) {
        Checks.due("ofSieve(" + what + ") of UPTO " + row[0] + ", struck " + row[1] + " times",
            x.ofSieve(what), row[2 + what]);
      }
    }
    Checks.unchanged("ofSieve(2)", Checks::busy, x -> x.ofSieve(2), 15);

    Checks.says("37 ofSieve", "Throws IllegalArgumentException if what is not 0 to 2");
    Checks.wrongOutside("what", 0, 2, (x, what) -> x.ofSieve(what));
  }

  // ---- the relation

  /** Each point leads to the next one; the last one leads to none. */
  private static Setsieve chain() {
    Setsieve x = new Setsieve();
    for (int point = 0; point < 11; point++) {
      x.relate(point, point + 1, true);
    }
    return x;
  }

  private static Setsieve ring() {
    Setsieve x = chain();
    x.relate(11, 0, true);
    return x;
  }

  /** All 144 pairs; the set 0 is the whole WORLD. */
  private static Setsieve allPairs() {
    Setsieve x = Checks.whole();
    for (int point = 0; point < 12; point++) {
      x.rowFrom(point, 0);
    }
    return x;
  }

  private static Setsieve paired(int... pairs) {
    Setsieve x = new Setsieve();
    for (int k = 0; k < pairs.length; k += 2) {
      x.relate(pairs[k], pairs[k + 1], true);
    }
    return x;
  }

  private static void noSuchPoints(String name, Checks.OfNumber call) {
    Checks.says(name, "Throws IndexOutOfBoundsException if there is no such POINT (both)");
    Checks.noSuchPoint("from", (x, point) -> call.on(x, point, 3));
    Checks.noSuchPoint("to", (x, point) -> call.on(x, 3, point));
    Checks.throwsIt("both", Checks.NO_PLACE, x -> call.on(x, 12, -1));
    Checks.throwsIt("the same twice", Checks.NO_PLACE, x -> call.on(x, 12, 12));
  }

  private static void noSuchPointOrSet(String name, Checks.OfNumber call) {
    Checks.says(name, "Throws IndexOutOfBoundsException if there is no such POINT, or SET");
    Checks.noSuchPoint("point", (x, point) -> call.on(x, point, 1));
    Checks.noSuchSet("set", (x, set) -> call.on(x, 1, set));
    Checks.noSuchSet("of the last point, set", (x, set) -> call.on(x, 11, set));
    Checks.throwsIt("both", Checks.NO_PLACE, x -> call.on(x, 12, 6));
    Checks.throwsIt("both", Checks.NO_PLACE, x -> call.on(x, -1, -1));
  }

  private static void relate() {
    Checks.says("38 relate", "Returns 1 if that is other than it was, otherwise 0");
    int[][] pairs = {{0, 0}, {0, 11}, {11, 0}, {11, 11}, {5, 5}, {5, 6}};
    for (int[] pair : pairs) {
      Setsieve x = new Setsieve();
      int from = pair[0];
      int to = pair[1];
      String what = from + " to " + to;
      Checks.unchanged(what + " is not, as before", Setsieve::new,
          y -> y.relate(from, to, false), 0);
      Checks.due(what + " comes", x.relate(from, to, true), 1);
      Checks.due("isRelated", x.isRelated(from, to), true);
      Checks.due("the other way", x.isRelated(to, from), from == to);
      Checks.due("pairs", x.house(1), 1);
      Checks.unchanged(what + " is, as before", () -> paired(from, to),
          y -> y.relate(from, to, true), 0);
      Checks.due(what + " goes", x.relate(from, to, false), 1);
      Checks.due("pairs", x.house(1), 0);
      x = allPairs();
      Checks.due(what + " goes out of all", x.relate(from, to, false), 1);
      Checks.due("pairs", x.house(1), 143);
      Checks.due(what + " comes to all others", x.relate(from, to, true), 1);
      Checks.due("pairs", x.house(1), 144);
    }
    noSuchPoints("38 relate true", (x, from, to) -> x.relate(from, to, true));
    noSuchPoints("38 relate false", (x, from, to) -> x.relate(from, to, false));
  }

  private static void rowFrom() {
    Checks.says("39 rowFrom", "the POINTS that a SET has (its numbers 0 to 11)");
    int[][] sets = {
      {0}, {11}, {12}, {0, 11, 12, 95}, {31, 32, 43}, {64, 75}, {63}, {1, 10, 65, 74},
    };
    String[] rows = {"{0}", "{11}", "{}", "{0, 11}", "{}", "{}", "{}", "{1, 10}"};
    for (int k = 0; k < sets.length; k++) {
      for (int point = 0; point < 12; point += 11) {
        Setsieve x = Checks.with(sets[k]);
        String before = x.text(0);
        int got = x.rowFrom(point, 0);
        Checks.due("its set " + before, x.text(0), before);
        Checks.due("pairs", x.house(1), got);
        x.row(point, 1);
        Checks.due("the row of " + before, x.text(1), rows[k]);
        Checks.due("how many", got, x.size(1));
      }
    }

    Checks.says("39 rowFrom", "Returns how many these are");
    Setsieve x = Checks.whole();
    Checks.due("of all", x.rowFrom(11, 0), 12);
    Checks.due("pairs", x.house(1), 12);
    Checks.due("of none", x.rowFrom(11, 1), 0);
    Checks.due("pairs", x.house(1), 0);
    x = allPairs();
    Checks.due("none among all", x.rowFrom(4, 1), 0);
    Checks.due("pairs", x.house(1), 132);
    Checks.due("the rows beside", x.isRelated(3, 4) && x.isRelated(5, 4), true);
    noSuchPointOrSet("39 rowFrom", (y, point, set) -> y.rowFrom(point, set));
  }

  private static void row() {
    Checks.says("40 row", "Returns how many numbers it has then");
    for (int point = 0; point < 12; point++) {
      Setsieve x = allPairs();
      Checks.due("of all", x.row(point, 0), 12);
      Checks.due("text(0)", x.text(0), "{0, 1, 2, 3, 4, 5, 6, 7, 8, 9, 10, 11}");
      x.rowFrom(point, 5);
      Checks.due("of none", x.row(point, 0), 0);
      Checks.due("text(0)", x.text(0), "{}");
      x = paired(point, 11, point, 0, 11 - point, 5);
      x.stretch(5, 0, 96);
      Checks.due("of two", x.row(point, 5), 2);
      Checks.due("text(5)", x.text(5), "{0, 11}");
      Checks.due("pairs", x.house(1), 3);
    }
    Checks.due("of a new one", new Setsieve().row(0, 0), 0);
    noSuchPointOrSet("40 row", (x, point, set) -> x.row(point, set));
  }

  private static void close() {
    Checks.says("41 close", "Returns how many pairs came");
    Checks.unchanged("without pairs", Setsieve::new, x -> x.close(), 0);
    Checks.unchanged("with all", SieveEdgesTest::allPairs, x -> x.close(), 0);
    Checks.unchanged("of one pair", () -> paired(0, 11), x -> x.close(), 0);
    Checks.unchanged("from a POINT to itself", () -> paired(11, 11), x -> x.close(), 0);
    Checks.due("there and back", paired(0, 11, 11, 0).close(), 2);
    Checks.due("to itself and on", paired(3, 3, 3, 4).close(), 0);
    Checks.due("on and to itself", paired(3, 4, 4, 4).close(), 0);
    Checks.due("of two pairs, rising", paired(0, 1, 1, 2).close(), 1);
    Checks.due("of two pairs, falling", paired(11, 10, 10, 9).close(), 1);
    Checks.due("of a chain of all", chain().close(), 55);
    Checks.due("of a ring of all", ring().close(), 132);
    Checks.due("all but one pair", pairsBut(0, 11).close(), 1);
    Checks.due("all but one to itself", pairsBut(11, 11).close(), 1);
    for (int point = 0; point < 12; point++) {
      int next = (point + 1) % 12;
      int behind = (point + 11) % 12;
      Setsieve y = paired(behind, point, point, next);
      Checks.due("a PATH through " + point, y.close(), 1);
      Checks.due("the pair that came", y.isRelated(behind, next), true);
    }
    Setsieve x = ring();
    x.close();
    Checks.due("all pairs", x.house(1), 144);
    Checks.due("once more", x.close(), 0);
    x = chain();
    x.close();
    Checks.due("the longest PATH", x.isRelated(0, 11), true);
    Checks.due("none back", x.isRelated(11, 0) || x.isRelated(0, 0), false);
  }

  private static Setsieve pairsBut(int from, int to) {
    Setsieve x = allPairs();
    x.relate(from, to, false);
    return x;
  }

  private static void converse() {
    Checks.says("42 converse", "Returns how many pairs there are");
    Checks.unchanged("without pairs", Setsieve::new, x -> x.converse(), 0);
    Checks.unchanged("with all", SieveEdgesTest::allPairs, x -> x.converse(), 144);
    Checks.unchanged("to itself", () -> paired(0, 0, 11, 11), x -> x.converse(), 2);
    Checks.unchanged("there and back", () -> paired(0, 11, 11, 0), x -> x.converse(), 2);
    Setsieve x = pairsBut(0, 11);
    Checks.due("all but one", x.converse(), 143);
    Checks.due("that one", x.isRelated(0, 11), true);
    Checks.due("the other way", x.isRelated(11, 0), false);
    x = chain();
    Checks.due("of a chain", x.converse(), 11);
    Checks.due("all turned", x.isRelated(11, 10) && x.isRelated(1, 0), true);
    Checks.due("none as before", x.isRelated(10, 11) || x.isRelated(0, 1), false);
    x.converse();
    Checks.due("twice", Checks.all(x), Checks.all(chain()));
  }

  private static void reach() {
    Checks.says("43 reach", "PATH: one pair or more");
    Checks.due("without pairs", Checks.whole().reach(0, 0), 0);
    Checks.due("of none, not itself", chain().reach(11, 0), 0);
    Checks.due("one pair", chain().reach(10, 0), 1);
    Checks.due("not itself", reached(paired(0, 11), 0), "{11}");
    Checks.due("a pair to itself", reached(paired(11, 11), 11), "{11}");
    Checks.due("itself by there and back", reached(paired(0, 11, 11, 0), 0), "{0, 11}");
    Checks.due("the pair into it", reached(paired(0, 11), 11), "{}");

    Checks.says("43 reach", "Returns how many numbers it has then");
    Checks.due("the longest PATH", chain().reach(0, 5), 11);
    Checks.due("not itself", reached(chain(), 0), "{1, 2, 3, 4, 5, 6, 7, 8, 9, 10, 11}");
    for (int point = 0; point < 12; point++) {
      Checks.due("in a ring", ring().reach(point, 0), 12);
      Checks.due("with all", allPairs().reach(point, 0), 12);
    }
    for (int point = 0; point < 12; point++) {
      int next = (point + 1) % 12;
      int behind = (point + 11) % 12;
      Checks.due("through " + point, paired(behind, point, point, next).reach(behind, 0), 2);
    }
    Setsieve x = chain();
    x.converse();
    Checks.due("falling", x.reach(11, 0), 11);
    Checks.due("pairs", x.house(1), 11);
    noSuchPointOrSet("43 reach", (y, point, set) -> y.reach(point, set));
  }

  private static String reached(Setsieve x, int point) {
    x.stretch(0, 0, 96);
    x.reach(point, 0);
    return x.text(0);
  }

  private static void isRelated() {
    Checks.says("44 isRelated", "Returns whether there is that pair");
    for (int from = 0; from < 12; from++) {
      for (int to = 0; to < 12; to++) {
        String what = from + " to " + to;
        Checks.due(what, paired(from, to).isRelated(from, to), true);
        Checks.due(what + ", without pairs", new Setsieve().isRelated(from, to), false);
        Checks.due(what + ", all others", pairsBut(from, to).isRelated(from, to), false);
        Checks.due(what + ", with all", allPairs().isRelated(from, to), true);
        Checks.due(what + ", turned", paired(to, from).isRelated(from, to), from == to);
      }
    }
    Checks.unchanged("3 to 3", Checks::busy, x -> x.isRelated(3, 3), true);
    noSuchPoints("44 isRelated", (x, from, to) -> x.isRelated(from, to));
  }

  private static void isClosed() {
    Checks.says("45 isClosed", "Returns whether the RELATION is its CLOSURE");
    Checks.due("without pairs", new Setsieve().isClosed(), true);
    Checks.due("with all", allPairs().isClosed(), true);
    Checks.due("of one pair", paired(0, 11).isClosed(), true);
    Checks.due("of one pair to itself", paired(11, 11).isClosed(), true);
    Checks.due("there and back", paired(0, 11, 11, 0).isClosed(), false);
    Checks.due("but for one of those", paired(0, 11, 11, 0, 0, 0).isClosed(), false);
    Checks.due("with all of those", paired(0, 11, 11, 0, 0, 0, 11, 11).isClosed(), true);
    Checks.due("a PATH of two", paired(9, 10, 10, 11).isClosed(), false);
    Checks.due("with what it asks", paired(9, 10, 10, 11, 9, 11).isClosed(), true);
    Checks.due("two to the same", paired(0, 5, 11, 5).isClosed(), true);
    for (int point = 0; point < 12; point++) {
      int next = (point + 1) % 12;
      int behind = (point + 11) % 12;
      Checks.due("a PATH through " + point, paired(behind, point, point, next).isClosed(), false);
      Checks.due("with what it asks",
          paired(behind, point, point, next, behind, next).isClosed(), true);
    }
    for (int point = 0; point < 12; point++) {
      Checks.due("all but one", pairsBut(point, 11 - point).isClosed(), false);
      Checks.due("all but one to itself", pairsBut(point, point).isClosed(), false);
    }
    Setsieve x = chain();
    Checks.due("a chain", x.isClosed(), false);
    x.close();
    Checks.due("a chain, closed", x.isClosed(), true);
    x.relate(0, 11, false);
    Checks.due("but for its longest", x.isClosed(), false);
    Checks.unchanged("isClosed()", Checks::busy, y -> y.isClosed(), false);
  }

  public static void main(String[] args) {
    sieve();
    strike();
    left();
    ofSieve();
    relate();
    rowFrom();
    row();
    close();
    converse();
    reach();
    isRelated();
    isClosed();
    Checks.end();
  }
}
