/**
 * What the tests by sentence share: which sentence is asked, objects to begin with, a look at all
 * that an object holds, and calls that must throw, be refused or change nothing. The document
 * promises nothing beyond 512 calls, so each check makes objects of its own and asks them less.
 */
final class Checks {
  static final Class<?> NO_PLACE = IndexOutOfBoundsException.class;
  static final Class<?> WRONG = IllegalArgumentException.class;
  static final int MIN = Integer.MIN_VALUE;
  static final int MAX = Integer.MAX_VALUE;
  static final int NONE = -1;
  static final int REFUSED = -9;
  static final String WHOLE = wholeWorld();

  interface Made {
    Setsieve anew();
  }

  interface Call {
    Object on(Setsieve x);
  }

  interface OfOne {
    Object on(Setsieve x, int value);
  }

  interface OfNumber {
    Object on(Setsieve x, int set, int number);
  }

  interface OfStretch {
    Object on(Setsieve x, int set, int from, int to);
  }

  private static String sentence = "";
  private static int sentences = 0;
  private static int wrong = 0;

  private Checks() {}

  private static String wholeWorld() {
    StringBuilder text = new StringBuilder("{0");
    for (int number = 1; number < 96; number++) {
      text.append(", ").append(number);
    }
    return text.append("}").toString();
  }

  /** What follows asks this sentence of the document. */
  static void says(String promise, String words) {
    sentence = promise + ": \"" + words + "\"";
    sentences++;
  }

  static void due(String what, Object got, Object want) {
    if (!want.equals(got)) {
      wrong++;
      System.out.println(sentence + ": " + what + " answered " + got + ", due is " + want);
    }
  }

  static void end() {
    System.out.println(sentences + " sentences asked, " + wrong + " answers are not as due");
    if (wrong != 0) {
      System.exit(1);
    }
  }

  /** What the call answers, or the class of what it throws. */
  static Object answer(Setsieve x, Call call) {
    try {
      return call.on(x);
    } catch (RuntimeException e) {
      return e.getClass();
    }
  }

  // ---- objects to begin with

  static Setsieve with(int... numbers) {
    Setsieve x = new Setsieve();
    for (int number : numbers) {
      x.put(0, number);
    }
    return x;
  }

  /** The set 0 is the whole WORLD. */
  static Setsieve whole() {
    Setsieve x = new Setsieve();
    x.stretch(0, 0, 96);
    return x;
  }

  /** A state in which nothing is as at first but the set 4; the set 5 is the whole WORLD. */
  static Setsieve busy() {
    Setsieve x = with(0, 5, 63, 64, 95);
    x.stretch(1, 60, 70);
    x.stretch(2, 0, 3);
    x.put(3, 2);
    x.stretch(5, 0, 96);
    x.sieve(30);
    x.strike();
    x.relate(0, 1, true);
    x.relate(1, 2, true);
    x.relate(3, 3, true);
    x.relate(11, 0, true);
    x.rule(0, 2, 1);
    x.rule(5, 3, 0);
    x.rule(7, 1, 4);
    x.walk(0);
    x.goOn();
    x.goOn();
    x.goOn();
    x.has(0, -1);
    x.knock();
    return x;
  }

  // ---- all that an object holds

  /** All but how often REFUSED was told. Some of it is seen only by changing it, so this is the
   * last that one asks of an object; it makes some 170 calls. */
  static String all(Setsieve x) {
    StringBuilder seen = new StringBuilder();
    for (int what = 0; what <= 6; what++) {
      seen.append(what == 5 ? "" : x.house(what) + " ");
    }
    for (int what = 0; what <= 2; what++) {
      seen.append(x.ofSieve(what)).append(' ');
    }
    for (int set = 0; set < 6; set++) {
      seen.append(x.text(set)).append(x.keeps(set));
    }
    seeRelation(x, seen);
    seeSieve(x, seen);
    seeWalk(x, seen);
    seeRules(x, seen);
    return seen.toString();
  }

  private static void seeRelation(Setsieve x, StringBuilder seen) {
    for (int point = 0; point < 12; point++) {
      x.row(point, 5);
      seen.append("\nrow ").append(x.text(5));
    }
  }

  private static void seeSieve(Setsieve x, StringBuilder seen) {
    x.left(5);
    seen.append("\nleft ").append(x.text(5));
    for (int strike = 0; strike < 25; strike++) {
      seen.append(' ').append(x.strike());
    }
  }

  private static void seeWalk(Setsieve x, StringBuilder seen) {
    x.now(5);
    seen.append("\npart ").append(x.text(5));
    for (int step = 0; step < 32; step++) {
      seen.append(' ').append(x.goOn());
    }
  }

  /** What is made by all RULES, by all but the first one, and so on. */
  private static void seeRules(Setsieve x, StringBuilder seen) {
    for (int rule = 0; rule < 8; rule++) {
      if (rule == 0 || rule == 1 || rule == 6) {
        seeMade(x, 0, 0, seen);
        seeMade(x, 7, 0, seen);
        seeMade(x, 3, 0, seen);
        seeMade(x, 4, 0, seen);
        seeMade(x, -1, -1, seen);
      }
      seen.append("\nrule ").append(x.noRule(rule));
    }
  }

  private static void seeMade(Setsieve x, int low, int high, StringBuilder seen) {
    x.words(5, low, high);
    seen.append("\nmade ").append(x.make(5)).append(x.text(5));
  }

  // ---- calls that go wrong, or change nothing

  private static void leavesAllBut(int refusals, String what, Made made, Call call, Object want) {
    Setsieve called = made.anew();
    Setsieve left = made.anew();
    due(what, answer(called, call), want);
    due("after " + what + ", how often REFUSED", called.house(5), left.house(5) + refusals);
    due("after " + what + ", all", all(called), all(left));
  }

  /** A call that throws: it changes nothing, in an object at work as in a new one. */
  static void throwsIt(String what, Class<?> kind, Call call) {
    leavesAllBut(0, what, Checks::busy, call, kind);
    leavesAllBut(0, what + " of a new one", Setsieve::new, call, kind);
  }

  /** A call that is refused: it changes nothing but how often REFUSED was told. */
  static void refused(String what, Call call) {
    refused(what, Checks::busy, call);
    refused(what + " of a new one", Setsieve::new, call);
  }

  static void refused(String what, Made made, Call call) {
    leavesAllBut(1, what, made, call, REFUSED);
  }

  static void unchanged(String what, Made made, Call call, Object want) {
    leavesAllBut(0, what, made, call, want);
  }

  /** A call beside an edge, but inside: it neither throws nor is refused. */
  static void goes(String what, Call call) {
    Setsieve x = busy();
    Object got = answer(x, call);
    due(what + " goes", got instanceof Class || got.equals(REFUSED) ? got : "goes", "goes");
    due("after " + what + ", how often REFUSED", x.house(5), busy().house(5));
  }

  private static void noSuch(String what, int behind, OfOne call) {
    for (int place : new int[] {-1, behind, MIN, MAX}) {
      throwsIt(what + " of " + place, NO_PLACE, x -> call.on(x, place));
    }
    for (int place = 0; place < behind; place++) {
      int inside = place;
      goes(what + " of " + place, x -> call.on(x, inside));
    }
  }

  static void noSuchSet(String what, OfOne call) {
    noSuch(what, 6, call);
  }

  static void noSuchPoint(String what, OfOne call) {
    noSuch(what, 12, call);
  }

  static void noSuchRule(String what, OfOne call) {
    noSuch(what, 8, call);
  }

  static void wrongOutside(String what, int least, int greatest, OfOne call) {
    for (int value : new int[] {least - 1, greatest + 1, MIN, MAX}) {
      throwsIt(what + " of " + value, WRONG, x -> call.on(x, value));
    }
    for (int value : new int[] {least, least + 1, greatest - 1, greatest}) {
      goes(what + " of " + value, x -> call.on(x, value));
    }
  }
}
