import java.lang.reflect.Constructor;
import java.lang.reflect.Method;
import java.lang.reflect.Modifier;
import java.util.Arrays;
import java.util.TreeSet;

/**
 * Each promise of the document by examples, ordinary inputs for the most part, and the face. The
 * edges and the wrong inputs are asked sentence by sentence in the other tests.
 */
public final class PromiseTest {
  private static final Class<?> NO_PLACE = IndexOutOfBoundsException.class;
  private static final Class<?> WRONG = IllegalArgumentException.class;
  private static final int MIN = Integer.MIN_VALUE;
  private static final int MAX = Integer.MAX_VALUE;

  private static int wrong = 0;
  private static int promise = 0;

  private static void due(String what, Object got, Object want) {
    if (!want.equals(got)) {
      wrong++;
      System.out.println("promise " + promise + ": " + what + " answered " + got + ", due is " + want);
    }
  }

  /** All that is seen without changing anything, but for how often REFUSED was told. */
  private static String seen(Setsieve x) {
    StringBuilder all = new StringBuilder();
    for (int set = 0; set < 6; set++) {
      all.append(x.text(set)).append(x.keeps(set)).append(' ');
    }
    for (int what = 0; what < 7; what++) {
      all.append(what == 5 ? "" : x.house(what) + " ");
    }
    for (int what = 0; what < 3; what++) {
      all.append(x.ofSieve(what)).append(' ');
    }
    for (int pair = 0; pair < 144; pair++) {
      all.append(x.isRelated(pair / 12, pair % 12) ? '1' : '0');
    }
    return all.toString();
  }

  private static Setsieve with(int... numbers) {
    Setsieve x = new Setsieve();
    for (int number : numbers) {
      x.put(0, number);
    }
    return x;
  }

  /** A state in which nothing is as at first. */
  private static Setsieve some() {
    Setsieve x = with(0, 5, 63, 64, 95);
    x.stretch(1, 60, 70);
    x.words(2, 7, 0);
    x.stretch(3, 2, 3);
    x.sieve(30);
    x.strike();
    x.relate(0, 1, true);
    x.relate(1, 2, true);
    x.rule(0, 2, 3);
    x.rule(5, 3, 1);
    x.walk(2);
    x.goOn();
    x.goOn();
    x.goOn();
    x.knock();
    return x;
  }

  private static void face() {
    promise = 0;
    TreeSet<String> names = new TreeSet<>();
    for (Method method : Setsieve.class.getDeclaredMethods()) {
      if (!Modifier.isPrivate(method.getModifiers()) && !method.isSynthetic()) {
        names.add(written(method));
        due(method + " is public", Modifier.isPublic(method.getModifiers()), true);
      }
    }
    TreeSet<String> want = new TreeSet<>(Arrays.asList(FACE));
    due("the face", names, want);
    Constructor<?>[] made = Setsieve.class.getConstructors();
    due("constructors", made.length + " of " + made[0].getParameterCount(), "1 of 0");
    due("public fields", Setsieve.class.getFields().length, 0);
    due("final", Modifier.isFinal(Setsieve.class.getModifiers()), true);
  }

  private static String written(Method method) {
    StringBuilder line = new StringBuilder();
    line.append(method.getReturnType().getSimpleName()).append(' ').append(method.getName());
    for (Class<?> kind : method.getParameterTypes()) {
      line.append(' ').append(kind.getSimpleName());
    }
    for (Class<?> kind : method.getExceptionTypes()) {
      line.append(kind == NO_PLACE ? " I" : kind == WRONG ? " A" : " ?");
    }
    return line.toString();
  }

  private static final String[] FACE = {
    "int put int int I A", "int drop int int I A", "int flip int int I A",
    "int tell int int boolean I A", "int fill int int int boolean I A",
    "int drain int int int I A", "int turn int int int I A", "int stretch int int int I A",
    "int empty int I", "int opposite int I", "int copy int int I", "int part int int int int I A",
    "int words int int int I", "int join int int I", "int meet int int I", "int less int int I",
    "int odd int int I", "int joinAll int int I A", "int meetAll int int I A", "int size int I",
    "int has int int I", "int find int int int I A", "int length int I", "boolean isEmpty int I",
    "boolean touch int int I", "boolean areSame int int I", "boolean lies int int I",
    "int code int I", "String text int I", "int ofWords int int I A", "int rank int int I A",
    "int nth int int I A", "int sieve int A", "int strike", "int left int I", "int ofSieve int A",
    "int relate int int boolean I", "int rowFrom int int I", "int row int int I", "int close",
    "int converse", "int reach int int I", "boolean isRelated int int I", "boolean isClosed",
    "int rule int int int I", "int noRule int I", "int make int I", "boolean keeps int I",
    "int walk int I", "int goOn", "int now int I", "int knock", "int house int A",
    "boolean isSound", "long digest",
  };

  private static void newObject() {
    promise = 1;
    Setsieve x = new Setsieve();
    for (int set = 0; set < 6; set++) {
      due("text(" + set + ")", x.text(set), "{}");
    }
    due("what is seen", seen(x), "{}true {}true {}true {}true {}true {}true 0 0 0 0 0 0 1 1 0 "
        + "0".repeat(144));
    due("house(5)", x.house(5), 0);
    due("goOn()", x.goOn(), -1);
    due("strike()", x.strike(), -1);
    x.put(0, 9);
    due("another one stays new", new Setsieve().text(0), "{}");
  }

  private static void onesOfSets() {
    promise = 2;
    Setsieve x = new Setsieve();
    int[] rising = {0, 31, 32, 63, 64, 95};
    for (int k = 0; k < rising.length; k++) {
      due("put(0, " + rising[k] + ")", x.put(0, rising[k]), k + 1);
    }
    due("put once more", x.put(0, 63), 6);
    due("text", x.text(0), "{0, 31, 32, 63, 64, 95}");
    due("put(5, 1)", x.put(5, 1), 1);
    due("text of the last set", x.text(5), "{1}");

    promise = 3;
    due("drop(0, 64)", x.drop(0, 64), 5);
    due("drop(0, 64) again", x.drop(0, 64), 5);
    due("drop(0, 0)", x.drop(0, 0), 4);
    due("drop(0, 95)", x.drop(0, 95), 3);
    due("text", x.text(0), "{31, 32, 63}");

    promise = 4;
    due("flip(0, 63)", x.flip(0, 63), 2);
    due("flip(0, 64)", x.flip(0, 64), 3);
    due("flip(0, 95)", x.flip(0, 95), 4);
    due("flip(0, 0)", x.flip(0, 0), 5);
    due("flip(0, 0) again", x.flip(0, 0), 4);
    due("text", x.text(0), "{31, 32, 64, 95}");

    promise = 5;
    due("tell(0, 1, true)", x.tell(0, 1, true), 5);
    due("tell(0, 1, true) again", x.tell(0, 1, true), 5);
    due("tell(0, 95, false)", x.tell(0, 95, false), 4);
    due("tell(0, 94, false)", x.tell(0, 94, false), 4);
    due("text", x.text(0), "{1, 31, 32, 64}");
  }

  private static void stretches() {
    promise = 6;
    Setsieve x = new Setsieve();
    due("fill(0, 60, 70, true)", x.fill(0, 60, 70, true), 10);
    due("fill(0, 64, 66, false)", x.fill(0, 64, 66, false), 8);
    due("text", x.text(0), "{60, 61, 62, 63, 66, 67, 68, 69}");
    due("fill(0, 5, 5, true)", x.fill(0, 5, 5, true), 8);
    due("fill(0, 96, 96, true)", x.fill(0, 96, 96, true), 8);
    due("fill(0, 0, 96, true)", x.fill(0, 0, 96, true), 96);
    due("fill(0, 1, 95, false)", x.fill(0, 1, 95, false), 2);
    due("text", x.text(0), "{0, 95}");
    due("fill(0, 0, 0, false)", x.fill(0, 0, 0, false), 2);

    promise = 7;
    x.fill(0, 0, 96, true);
    due("drain(0, 2, 64)", x.drain(0, 2, 64), 34);
    due("drain(0, 66, 96)", x.drain(0, 66, 96), 4);
    due("drain(0, 1, 1)", x.drain(0, 1, 1), 4);
    due("text", x.text(0), "{0, 1, 64, 65}");

    promise = 8;
    due("turn(0, 1, 3)", x.turn(0, 1, 3), 4);
    due("text", x.text(0), "{0, 2, 64, 65}");
    due("turn(0, 63, 67)", x.turn(0, 63, 67), 4);
    due("text", x.text(0), "{0, 2, 63, 66}");
    due("turn(0, 96, 96)", x.turn(0, 96, 96), 4);
    due("turn(0, 0, 96)", x.turn(0, 0, 96), 92);

    promise = 9;
    x.empty(0);
    x.put(0, 9);
    due("stretch(0, 62, 66)", x.stretch(0, 62, 66), 5);
    due("text", x.text(0), "{9, 62, 63, 64, 65}");
    due("stretch(0, 94, 96)", x.stretch(0, 94, 96), 7);
    due("stretch(0, 0, 0)", x.stretch(0, 0, 0), 7);
    due("stretch(0, 0, 96)", x.stretch(0, 0, 96), 96);
  }

  private static void wholes() {
    promise = 10;
    Setsieve x = with(3, 64, 95);
    due("empty(0)", x.empty(0), 3);
    due("empty(0) again", x.empty(0), 0);
    due("text", x.text(0), "{}");

    promise = 11;
    due("opposite(0)", x.opposite(0), 96);
    x.drop(0, 95);
    x.drop(0, 0);
    due("opposite(0)", x.opposite(0), 2);
    due("text", x.text(0), "{0, 95}");

    promise = 12;
    x.stretch(1, 3, 9);
    due("copy(0, 1)", x.copy(0, 1), 2);
    due("text", x.text(1), "{0, 95}");
    x.put(0, 1);
    due("the copy stays", x.text(1), "{0, 95}");
    due("copy(0, 0)", x.copy(0, 0), 3);
    due("copy of none", x.copy(2, 0), 0);
  }

  private static void parts() {
    promise = 13;
    Setsieve x = with(0, 5, 63, 64, 95);
    x.stretch(1, 9, 12);
    due("part(0, 0, 96, 1)", x.part(0, 0, 96, 1), 5);
    due("text", x.text(1), "{0, 5, 63, 64, 95}");
    due("part(0, 5, 95, 1)", x.part(0, 5, 95, 1), 3);
    due("text", x.text(1), "{0, 58, 59}");
    due("part(0, 64, 96, 1)", x.part(0, 64, 96, 1), 2);
    due("text", x.text(1), "{0, 31}");
    due("part(0, 63, 64, 1)", x.part(0, 63, 64, 1), 1);
    due("text", x.text(1), "{0}");
    due("part(0, 95, 96, 1)", x.part(0, 95, 96, 1), 1);
    due("text", x.text(1), "{0}");
    due("part(0, 96, 96, 1)", x.part(0, 96, 96, 1), 0);
    due("part(0, 0, 64, 1)", x.part(0, 0, 64, 1), 3);
    due("text", x.text(1), "{0, 5, 63}");
    due("part(0, 1, 96, 0)", x.part(0, 1, 96, 0), 4);
    due("text", x.text(0), "{4, 62, 63, 94}");

    promise = 14;
    x.put(3, 95);
    due("words(3, 5, 3)", x.words(3, 5, 3), 4);
    due("text", x.text(3), "{0, 2, 32, 33}");
    due("words(3, MIN, MIN)", x.words(3, MIN, MIN), 2);
    due("text", x.text(3), "{31, 63}");
    due("words(3, -1, 0)", x.words(3, -1, 0), 32);
    due("words(3, -1, -1)", x.words(3, -1, -1), 64);
    due("length", x.length(3), 64);
    due("words(3, 0, 0)", x.words(3, 0, 0), 0);
  }

  private static Setsieve two() {
    Setsieve x = with(1, 2, 63, 64, 90);
    x.put(1, 2);
    x.put(1, 3);
    x.put(1, 64);
    x.put(1, 95);
    return x;
  }

  private static void pairsOfSets() {
    promise = 15;
    Setsieve x = two();
    due("join(0, 1)", x.join(0, 1), 7);
    due("text", x.text(0) + x.text(1), "{1, 2, 3, 63, 64, 90, 95}{2, 3, 64, 95}");
    due("join(0, 0)", x.join(0, 0), 7);

    promise = 16;
    x = two();
    due("meet(0, 1)", x.meet(0, 1), 2);
    due("text", x.text(0) + x.text(1), "{2, 64}{2, 3, 64, 95}");
    due("meet(1, 1)", x.meet(1, 1), 4);

    promise = 17;
    x = two();
    due("less(0, 1)", x.less(0, 1), 3);
    due("text", x.text(0) + x.text(1), "{1, 63, 90}{2, 3, 64, 95}");
    due("less(1, 1)", x.less(1, 1), 0);

    promise = 18;
    x = two();
    due("odd(0, 1)", x.odd(0, 1), 5);
    due("text", x.text(0) + x.text(1), "{1, 3, 63, 90, 95}{2, 3, 64, 95}");
    due("odd(1, 1)", x.odd(1, 1), 0);
  }

  private static void families() {
    promise = 19;
    Setsieve x = two();
    x.put(5, 7);
    due("joinAll(35, 4)", x.joinAll(35, 4), 8);
    due("text", x.text(4), "{1, 2, 3, 7, 63, 64, 90, 95}");
    due("joinAll(1, 0)", x.joinAll(1, 0), 5);
    due("joinAll(3, 0)", x.joinAll(3, 0), 7);
    due("joinAll(32, 4)", x.joinAll(32, 4), 1);
    due("joinAll(0, 4)", x.joinAll(0, 4), 0);
    due("joinAll(63, 5)", x.joinAll(63, 5), 8);

    promise = 20;
    x = two();
    due("meetAll(3, 4)", x.meetAll(3, 4), 2);
    due("text", x.text(4), "{2, 64}");
    due("meetAll(16, 4)", x.meetAll(16, 4), 2);
    due("meetAll(17, 0)", x.meetAll(17, 0), 2);
    due("meetAll(2, 3)", x.meetAll(2, 3), 4);
    due("meetAll(0, 5)", x.meetAll(0, 5), 96);
    due("meetAll(42, 5)", x.meetAll(42, 5), 4);
    due("meetAll(63, 5)", x.meetAll(63, 5), 0);
  }

  private static void askingSets() {
    Setsieve x = with(0, 5, 63, 64, 95);
    promise = 21;
    due("size(0)", x.size(0), 5);
    due("size(1)", x.size(1), 0);

    promise = 22;
    for (int number : new int[] {0, 5, 63, 64, 95}) {
      due("has(0, " + number + ")", x.has(0, number), 1);
    }
    for (int number : new int[] {1, 31, 32, 62, 65, 94, 96, 127, 128, 159, MAX}) {
      due("has(0, " + number + ")", x.has(0, number), 0);
    }

    promise = 24;
    due("length(0)", x.length(0), 96);
    due("length(1)", x.length(1), 0);
    x.put(1, 0);
    due("length of {0}", x.length(1), 1);
    x.put(1, 64);
    due("length of {0, 64}", x.length(1), 65);

    promise = 25;
    due("isEmpty(0)", x.isEmpty(0), false);
    due("isEmpty(2)", x.isEmpty(2), true);
    x.put(2, 95);
    due("isEmpty of {95}", x.isEmpty(2), false);
  }

  private static void finding() {
    promise = 23;
    Setsieve x = with(0, 5, 63, 64, 95);
    int[][] calls = {
      {0, 0, 0}, {1, 0, 5}, {5, 0, 5}, {6, 0, 63}, {64, 0, 64}, {65, 0, 95}, {95, 0, 95},
      {96, 0, -1}, {MAX, 0, -1}, {0, 1, 1}, {1, 1, 1}, {63, 1, 65}, {95, 1, 96}, {96, 1, 96},
      {97, 1, 97}, {MAX, 1, MAX}, {-1, 2, -1}, {0, 2, 0}, {4, 2, 0}, {62, 2, 5}, {63, 2, 63},
      {94, 2, 64}, {95, 2, 95}, {96, 2, 95}, {MAX, 2, 95}, {-1, 3, -1}, {0, 3, -1}, {1, 3, 1},
      {5, 3, 4}, {64, 3, 62}, {95, 3, 94}, {96, 3, 96}, {MAX, 3, MAX},
    };
    for (int[] call : calls) {
      due("find(0, " + call[0] + ", " + call[1] + ")", x.find(0, call[0], call[1]), call[2]);
    }
    due("find(1, 0, 0)", x.find(1, 0, 0), -1);
    due("find(1, 95, 2)", x.find(1, 95, 2), -1);
    x.opposite(1);
    due("find(1, 0, 1)", x.find(1, 0, 1), 96);
    due("find(1, 95, 3)", x.find(1, 95, 3), -1);
  }

  private static void comparing() {
    Setsieve x = two();
    promise = 26;
    due("touch(0, 1)", x.touch(0, 1), true);
    x.less(1, 0);
    due("touch(0, 1)", x.touch(0, 1), false);
    due("touch(0, 0)", x.touch(0, 0), true);
    due("touch(2, 2)", x.touch(2, 2), false);
    x.put(1, 90);
    due("touch by 90", x.touch(1, 0), true);

    promise = 27;
    due("areSame(0, 1)", x.areSame(0, 1), false);
    due("areSame(0, 0)", x.areSame(0, 0), true);
    due("areSame(2, 3)", x.areSame(2, 3), true);
    x.copy(0, 2);
    due("areSame of a copy", x.areSame(0, 2), true);
    x.flip(2, 95);
    due("areSame but for 95", x.areSame(0, 2), false);
    x.flip(2, 95);
    x.flip(2, 0);
    due("areSame but for 0", x.areSame(0, 2), false);

    promise = 28;
    due("lies(0, 2)", x.lies(0, 2), true);
    due("lies(2, 0)", x.lies(2, 0), false);
    due("lies(0, 0)", x.lies(0, 0), true);
    due("lies(3, 0)", x.lies(3, 0), true);
    x.put(3, 95);
    due("lies of {95}", x.lies(3, 0), false);
  }

  private static void writing() {
    promise = 29;
    Setsieve x = with(0, 31, 32, 63, 64, 95);
    due("code(0)", x.code(0), 1233);
    due("code of none", x.code(1), 1234);
    x.put(1, 31);
    due("code of {31}", x.code(1), 1234 ^ MIN);
    x.words(1, 0, 6);
    due("code of {33, 34}", x.code(1), 1234 ^ 6);
    x.empty(1);
    x.put(1, 66);
    due("code of {66}", x.code(1), 1234 ^ 8);

    promise = 30;
    due("text(0)", x.text(0), "{0, 31, 32, 63, 64, 95}");
    due("text(1)", x.text(1), "{66}");
    due("text(2)", x.text(2), "{}");

    promise = 31;
    for (int what = 1; what <= 3; what++) {
      due("ofWords(0, " + what + ")", x.ofWords(0, what), MIN + 1);
    }
    due("ofWords(0, 0)", x.ofWords(0, 0), 2);
    due("ofWords(1, 0) of {66}", x.ofWords(1, 0), 2);
    due("ofWords(1, 3) of {66}", x.ofWords(1, 3), 4);
    due("ofWords(2, 0) of {}", x.ofWords(2, 0), 0);
    x.put(2, 63);
    x.put(2, 5);
    due("ofWords(2, 0) of {5, 63}", x.ofWords(2, 0), 1);
    due("ofWords(2, 1)", x.ofWords(2, 1), 32);
    due("ofWords(2, 2)", x.ofWords(2, 2), MIN);
    due("ofWords(2, 3)", x.ofWords(2, 3), 0);
  }

  private static void counting() {
    promise = 32;
    Setsieve x = with(0, 5, 63, 64, 95);
    int[][] ranks = {{0, 0}, {1, 1}, {5, 1}, {6, 2}, {63, 2}, {64, 3}, {65, 4}, {95, 4}, {96, 5}};
    for (int[] call : ranks) {
      due("rank(0, " + call[0] + ")", x.rank(0, call[0]), call[1]);
    }

    promise = 33;
    int[][] places = {{0, 0}, {1, 5}, {2, 63}, {3, 64}, {4, 95}, {5, -1}, {96, -1}, {MAX, -1}};
    for (int[] call : places) {
      due("nth(0, " + call[0] + ")", x.nth(0, call[0]), call[1]);
    }
    due("nth(1, 0)", x.nth(1, 0), -1);
  }

  private static void sieving() {
    promise = 34;
    Setsieve x = some();
    due("sieve(10)", x.sieve(10), 9);
    due("ofSieve(1)", x.ofSieve(1), 1);
    due("sieve(95)", x.sieve(95), 94);
    due("sieve(1)", x.sieve(1), 0);
    due("sieve(2)", x.sieve(2), 1);

    promise = 35;
    due("strike() of 2", x.strike(), 2);
    due("strike() behind 2", x.strike(), -1);
    due("house(5)", x.house(5), 0);
    x.sieve(95);
    int[] primes = {2, 3, 5, 7, 11, 13, 17, 19, 23, 29, 31, 37, 41, 43, 47, 53, 59, 61, 67, 71,
        73, 79, 83, 89};
    for (int prime : primes) {
      due("strike()", x.strike(), prime);
    }
    due("strike() behind all", x.strike(), -1);
    due("LAST then", x.ofSieve(1), 89);
    due("how many", x.ofSieve(2), primes.length);

    promise = 36;
    x.sieve(12);
    due("left(0)", x.left(0), 11);
    x.strike();
    due("left(0)", x.left(0), 6);
    due("text", x.text(0), "{2, 3, 5, 7, 9, 11}");
    x.strike();
    due("left(5)", x.left(5), 5);
    due("text", x.text(5), "{2, 3, 5, 7, 11}");
    x.empty(5);
    due("still left", x.left(5), 5);

    promise = 37;
    due("ofSieve(0)", x.ofSieve(0), 12);
    due("ofSieve(1)", x.ofSieve(1), 3);
    due("ofSieve(2)", x.ofSieve(2), 5);
  }

  private static void relating() {
    promise = 38;
    Setsieve x = new Setsieve();
    due("relate(0, 11, true)", x.relate(0, 11, true), 1);
    due("relate(0, 11, true) again", x.relate(0, 11, true), 0);
    due("isRelated(0, 11)", x.isRelated(0, 11), true);
    due("isRelated(11, 0)", x.isRelated(11, 0), false);
    due("relate(11, 0, false)", x.relate(11, 0, false), 0);
    due("relate(0, 11, false)", x.relate(0, 11, false), 1);
    due("relate(5, 5, true)", x.relate(5, 5, true), 1);
    due("house(1)", x.house(1), 1);

    promise = 39;
    x.words(0, -1, -1);
    due("rowFrom(3, 0)", x.rowFrom(3, 0), 12);
    x.empty(0);
    x.put(0, 0);
    x.put(0, 11);
    x.put(0, 12);
    x.put(0, 76);
    due("rowFrom(3, 0)", x.rowFrom(3, 0), 2);
    due("house(1)", x.house(1), 3);
    due("isRelated(3, 11)", x.isRelated(3, 11), true);
    due("isRelated(3, 1)", x.isRelated(3, 1), false);

    promise = 40;
    x.put(1, 95);
    due("row(3, 1)", x.row(3, 1), 2);
    due("text", x.text(1), "{0, 11}");
    due("row(4, 1)", x.row(4, 1), 0);
    due("text", x.text(1), "{}");

    promise = 44;
    due("isRelated(5, 5)", x.isRelated(5, 5), true);
    due("isRelated(6, 6)", x.isRelated(6, 6), false);
  }

  /** 11 to 10, 10 to 9 and so on down to 0. */
  private static Setsieve chain() {
    Setsieve x = new Setsieve();
    for (int point = 11; point > 0; point--) {
      x.relate(point, point - 1, true);
    }
    return x;
  }

  private static void closing() {
    promise = 41;
    Setsieve x = new Setsieve();
    due("close() of none", x.close(), 0);
    x = chain();
    due("close() of a chain", x.close(), 55);
    due("close() again", x.close(), 0);
    due("house(1)", x.house(1), 66);
    due("isRelated(11, 0)", x.isRelated(11, 0), true);
    due("isRelated(0, 0)", x.isRelated(0, 0), false);
    x = chain();
    x.relate(0, 11, true);
    due("close() of a ring", x.close(), 132);

    promise = 42;
    x = new Setsieve();
    due("converse() of none", x.converse(), 0);
    x.relate(0, 1, true);
    x.relate(1, 0, true);
    x.relate(2, 11, true);
    x.relate(3, 3, true);
    due("converse()", x.converse(), 4);
    due("isRelated(11, 2)", x.isRelated(11, 2), true);
    due("isRelated(2, 11)", x.isRelated(2, 11), false);
    due("isRelated(0, 1)", x.isRelated(0, 1) && x.isRelated(1, 0) && x.isRelated(3, 3), true);

    promise = 43;
    x = chain();
    x.put(0, 95);
    due("reach(11, 0)", x.reach(11, 0), 11);
    due("text", x.text(0), "{0, 1, 2, 3, 4, 5, 6, 7, 8, 9, 10}");
    due("reach(0, 0)", x.reach(0, 0), 0);
    due("house(1)", x.house(1), 11);
    x.relate(0, 11, true);
    due("reach(4, 0) in a ring", x.reach(4, 0), 12);
    x = new Setsieve();
    for (int point = 0; point < 11; point++) {
      x.relate(point, point + 1, true);
    }
    due("reach(0, 5)", x.reach(0, 5), 11);

    promise = 45;
    x = new Setsieve();
    due("isClosed() of none", x.isClosed(), true);
    x.relate(0, 1, true);
    due("isClosed() of a pair", x.isClosed(), true);
    x.relate(1, 0, true);
    due("isClosed() of there and back", x.isClosed(), false);
    x.relate(0, 0, true);
    due("isClosed() but for one", x.isClosed(), false);
    x.relate(1, 1, true);
    due("isClosed() of all of both", x.isClosed(), true);
    x.relate(10, 11, true);
    x.relate(11, 9, true);
    due("isClosed() of a path", x.isClosed(), false);
    x.close();
    due("isClosed() when closed", x.isClosed(), true);
  }

  private static void ruling() {
    promise = 46;
    Setsieve x = with(1);
    x.put(1, 95);
    due("rule(0, 0, 1)", x.rule(0, 0, 1), 0);
    due("rule(0, 0, 1) again", x.rule(0, 0, 1), 1);
    due("rule(7, 1, 1)", x.rule(7, 1, 1), 0);
    due("house(2)", x.house(2), 2);
    x.put(1, 2);
    x.put(0, 3);
    x.put(4, 1);
    due("make(4), of the RULE as it was", x.make(4), 1);
    due("text", x.text(4), "{1, 95}");

    promise = 47;
    due("noRule(0)", x.noRule(0), 1);
    due("noRule(0) again", x.noRule(0), 0);
    due("noRule(3)", x.noRule(3), 0);
    due("house(2)", x.house(2), 1);
    due("rule(0, ..) is new then", x.rule(0, 0, 1), 0);
  }

  /** A rule for each of 8 steps, so that a set with 0 gets the numbers 1 to 8, last rule first. */
  private static Setsieve ladder() {
    Setsieve x = new Setsieve();
    for (int step = 0; step < 8; step++) {
      x.empty(0);
      x.put(0, step);
      x.empty(1);
      x.put(1, step + 1);
      x.rule(7 - step, 0, 1);
    }
    return x;
  }

  private static void making() {
    promise = 48;
    Setsieve x = new Setsieve();
    x.put(0, 4);
    due("make(0) without rules", x.make(0), 0);
    x = ladder();
    x.put(2, 0);
    due("make(2)", x.make(2), 8);
    due("text", x.text(2), "{0, 1, 2, 3, 4, 5, 6, 7, 8}");
    due("make(2) again", x.make(2), 0);
    x.put(3, 9);
    due("make(3)", x.make(3), 0);
    x.put(3, 6);
    due("make(3)", x.make(3), 2);
    x.empty(0);
    x.rule(0, 0, 3);
    due("make(0) by an IF of none", x.make(0), 4);
    due("text", x.text(0), "{6, 7, 8, 9}");
    x.noRule(0);
    due("make(4) when it is gone", x.make(4), 0);

    promise = 49;
    x = ladder();
    due("keeps(2) of none", x.keeps(2), true);
    x.put(2, 0);
    due("keeps(2)", x.keeps(2), false);
    x.make(2);
    due("keeps(2) when made", x.keeps(2), true);
    x.drop(2, 8);
    due("keeps(2) but for one", x.keeps(2), false);
    x.noRule(0);
    due("keeps(2) when that rule is gone", x.keeps(2), true);
    due("text", x.text(2), "{0, 1, 2, 3, 4, 5, 6, 7}");
  }

  private static void walking() {
    promise = 50;
    Setsieve x = with(0, 32, 64);
    due("walk(0)", x.walk(0), 8);
    due("walk(5) of none", x.walk(5), 1);
    due("house(4)", x.house(4), 0);
    due("goOn()", x.goOn(), -1);
    x.stretch(1, 60, 70);
    due("walk(1) of ten", x.walk(1), 1024);
    x.goOn();
    x.put(1, 3);
    due("walk(1) of eleven", x.walk(1), -9);
    due("goOn() of the walk before", x.goOn(), 61);
    x.walk(0);
    due("GONE", x.house(3), 0);
    due("now(2)", x.now(2), 0);

    promise = 51;
    x.empty(0);
    int[] steps = {0, 32, 0, 64, 0, 32, 0};
    for (int k = 0; k < steps.length; k++) {
      due("goOn()", x.goOn(), steps[k]);
      due("GONE", x.house(3), k + 1);
    }
    due("goOn() at the end", x.goOn(), -1);
    due("goOn() at the end", x.goOn(), -1);
    due("GONE", x.house(3), 7);
    due("house(5)", x.house(5), 1);

    promise = 52;
    due("now(3)", x.now(3), 1);
    due("text", x.text(3), "{64}");
    x.empty(3);
    due("now(4)", x.now(4), 1);
    due("now(4) of a new one", new Setsieve().now(4), 0);
  }

  private static void sevenWalked() {
    promise = 51;
    Setsieve x = new Setsieve();
    x.stretch(0, 60, 67);
    x.walk(0);
    TreeSet<String> all = new TreeSet<>();
    for (int step = 0; step < 127; step++) {
      due("goOn() " + step, x.goOn(), 60 + Integer.numberOfTrailingZeros(step + 1));
      x.now(1);
      all.add(x.text(1));
    }
    due("goOn() at the end", x.goOn(), -1);
    due("parts", all.size(), 127);
    due("isSound()", x.isSound(), true);
  }

  private static void allOfIt() {
    promise = 53;
    Setsieve x = new Setsieve();
    due("knock()", x.knock(), 1);
    due("knock()", x.knock(), 2);
    due("another one", new Setsieve().knock(), 1);

    promise = 54;
    x = some();
    x.has(0, -1);
    x.put(0, -1);
    int[] house = {19, 2, 2, 3, 3, 2, 1};
    for (int what = 0; what < 7; what++) {
      due("house(" + what + ")", x.house(what), house[what]);
    }

    promise = 55;
    due("isSound() of a new one", new Setsieve().isSound(), true);
    long before = x.digest();
    due("isSound()", x.isSound(), true);
    due("digest after isSound()", x.digest(), before);
    due("goOn() after isSound()", x.goOn(), 2);
    due("what is seen after isSound()", seen(x), seen(someAndAStep()));

    promise = 56;
    due("digest() of a new one", new Setsieve().digest(), digestOf(new Setsieve()));
    due("digest()", some().digest(), digestOf(some()));
    due("digest()", chained().digest(), digestOf(chained()));
  }

  private static Setsieve someAndAStep() {
    Setsieve x = some();
    x.goOn();
    return x;
  }

  private static Setsieve chained() {
    Setsieve x = chain();
    x.opposite(3);
    x.put(2, 9);
    x.put(2, 10);
    x.knock();
    return x;
  }

  private static long digestOf(Setsieve x) {
    StringBuilder all = new StringBuilder();
    for (int what = 0; what < 7; what++) {
      all.append(x.house(what)).append(' ');
    }
    for (int set = 0; set < 6; set++) {
      all.append(x.size(set) + " " + x.length(set) + " " + x.code(set) + " ");
      all.append(x.text(set).length()).append(' ');
      for (int what = 0; what < 4; what++) {
        all.append(x.ofWords(set, what)).append(' ');
      }
      for (int what = 0; what < 4; what++) {
        all.append(x.find(set, 50, what)).append(' ');
      }
      all.append((x.keeps(set) ? 1 : 0) + " " + x.rank(set, 48) + " " + x.nth(set, 3) + " ");
    }
    for (int pair = 0; pair < 36; pair++) {
      all.append(x.areSame(pair / 6, pair % 6) ? "1 " : "0 ");
      all.append(x.lies(pair / 6, pair % 6) ? "1 " : "0 ");
      all.append(x.touch(pair / 6, pair % 6) ? "1 " : "0 ");
    }
    all.append(x.ofSieve(0) + " " + x.ofSieve(1) + " " + x.ofSieve(2) + " ");
    for (int pair = 0; pair < 144; pair++) {
      all.append(x.isRelated(pair / 12, pair % 12) ? "1 " : "0 ");
    }
    all.append(x.isClosed() ? "1 " : "0 ").append(x.isSound() ? "1" : "0");
    long d = 7832;
    for (String value : all.toString().split(" ")) {
      d = d * 31 + Long.parseLong(value);
    }
    return d;
  }

  public static void main(String[] args) {
    face();
    newObject();
    onesOfSets();
    stretches();
    wholes();
    parts();
    pairsOfSets();
    families();
    askingSets();
    finding();
    comparing();
    writing();
    counting();
    sieving();
    relating();
    closing();
    ruling();
    making();
    walking();
    sevenWalked();
    allOfIt();
    System.out.println(wrong == 0 ? "all promises hold" : wrong + " answers are not as due");
    if (wrong != 0) {
      System.exit(1);
    }
  }
}
