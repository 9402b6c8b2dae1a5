import java.math.BigInteger;
import java.util.ArrayList;
import java.util.Arrays;
import java.util.List;
import java.util.TreeSet;

/**
 * Long runs of calls, each answer compared with that of a model that is told by the document's
 * words over java.util, where Setsieve has digits and shifts. The runs are the same each time.
 */
public final class ModelTest {
  private static final int RUNS = 600;
  private static final int CALLS = 512;
  private static final String[] NAMES = {
    "put", "drop", "flip", "tell", "fill", "drain", "turn", "stretch", "empty", "opposite", "copy",
    "part", "words", "join", "meet", "less", "odd", "joinAll", "meetAll", "size", "has", "find",
    "length", "isEmpty", "touch", "areSame", "lies", "code", "text", "ofWords", "rank", "nth",
    "sieve", "strike", "left", "ofSieve", "relate", "rowFrom", "row", "close", "converse", "reach",
    "isRelated", "isClosed", "rule", "noRule", "make", "keeps", "walk", "goOn", "now", "knock",
    "house", "isSound", "digest",
  };

  private static long seed = 7;

  /** A number from 0 to below - 1, the same ones each time. */
  private static int next(int below) {
    seed = seed * 6364136223846793005L + 1442695040888963407L;
    return (int) ((seed >>> 33) % below);
  }

  private static int pick(int... values) {
    return values[next(values.length)];
  }

  /** Mostly one from 0 to below - 1, now and then one beside. */
  private static int about(int below) {
    return next(25) > 0 ? next(below)
        : pick(-1, -2, below, below + 1, Integer.MIN_VALUE, Integer.MAX_VALUE);
  }

  private static int number() {
    return next(12) > 0 ? about(96) : pick(0, 31, 32, 62, 63, 64, 65, 94, 95, 96, 97, -1);
  }

  private static final class Model {
    final List<TreeSet<Integer>> sets = new ArrayList<>();
    int upto = 1;
    int last = 1;
    TreeSet<Integer> left = new TreeSet<>();
    TreeSet<Integer> pairs = new TreeSet<>();
    final List<TreeSet<Integer>> ifs = new ArrayList<>();
    final List<TreeSet<Integer>> thens = new ArrayList<>();
    List<Integer> whole = new ArrayList<>();
    TreeSet<Integer> part = new TreeSet<>();
    int gone = 0;
    int refusals = 0;
    int knocks = 0;

    Model() {
      for (int set = 0; set < 6; set++) {
        sets.add(new TreeSet<>());
      }
      for (int rule = 0; rule < 8; rule++) {
        ifs.add(null);
        thens.add(null);
      }
    }

    static void set(int set) {
      if (set < 0 || set > 5) {
        throw new IndexOutOfBoundsException();
      }
    }

    static void point(int point) {
      if (point < 0 || point > 11) {
        throw new IndexOutOfBoundsException();
      }
    }

    static void wrongIf(boolean is) {
      if (is) {
        throw new IllegalArgumentException();
      }
    }

    int refuse() {
      refusals++;
      return -9;
    }

    static TreeSet<Integer> stretch(int from, int to) {
      TreeSet<Integer> numbers = new TreeSet<>();
      for (int n = from; n < to; n++) {
        numbers.add(n);
      }
      return numbers;
    }

    int become(int set, TreeSet<Integer> numbers) {
      sets.set(set, new TreeSet<>(numbers));
      return numbers.size();
    }

    static TreeSet<Integer> odd(TreeSet<Integer> a, TreeSet<Integer> b) {
      TreeSet<Integer> all = new TreeSet<>(a);
      all.addAll(b);
      all.removeIf(n -> a.contains(n) && b.contains(n));
      return all;
    }

    Object one(String name, int set, int number, boolean is) {
      set(set);
      wrongIf(number > 95);
      if (number < 0) {
        return refuse();
      }
      TreeSet<Integer> numbers = sets.get(set);
      boolean comes = name.equals("put") || name.equals("tell") && is
          || name.equals("flip") && !numbers.contains(number);
      if (comes) {
        numbers.add(number);
      } else {
        numbers.remove(number);
      }
      return numbers.size();
    }

    Object many(String name, int set, int from, int to, boolean is, int into) {
      set(set);
      set(into);
      wrongIf(from > 96 || to > 96);
      if (from < 0 || from > to) {
        return refuse();
      }
      TreeSet<Integer> numbers = sets.get(set);
      if (name.equals("part")) {
        TreeSet<Integer> moved = new TreeSet<>();
        for (int n : numbers.subSet(from, to)) {
          moved.add(n - from);
        }
        return become(into, moved);
      }
      if (name.equals("turn")) {
        return become(set, odd(numbers, stretch(from, to)));
      }
      if (name.equals("stretch") || name.equals("fill") && is) {
        numbers.addAll(stretch(from, to));
      } else {
        numbers.removeAll(stretch(from, to));
      }
      return numbers.size();
    }

    Object words(int set, int low, int high) {
      set(set);
      TreeSet<Integer> numbers = new TreeSet<>();
      BigInteger both = BigInteger.valueOf(Integer.toUnsignedLong(high)).shiftLeft(32)
          .add(BigInteger.valueOf(Integer.toUnsignedLong(low)));
      for (int n = 0; n < 64; n++) {
        if (both.testBit(n)) {
          numbers.add(n);
        }
      }
      return become(set, numbers);
    }

    Object two(String name, int set, int other) {
      set(set);
      set(other);
      TreeSet<Integer> a = sets.get(set);
      TreeSet<Integer> b = new TreeSet<>(sets.get(other));
      switch (name) {
        case "join":
          a.addAll(b);
          return a.size();
        case "meet":
          a.retainAll(b);
          return a.size();
        case "less":
          a.removeAll(b);
          return a.size();
        case "odd":
          return become(set, odd(a, b));
        case "copy":
          return become(other, a);
        case "areSame":
          return a.equals(b);
        case "lies":
          return b.containsAll(a);
        default:
          b.retainAll(a);
          return !b.isEmpty();
      }
    }

    Object family(boolean join, int mask, int into) {
      set(into);
      wrongIf(mask < 0 || mask > 63);
      TreeSet<Integer> numbers = join ? new TreeSet<>() : stretch(0, 96);
      for (int set = 0; set < 6; set++) {
        if (BigInteger.valueOf(mask).testBit(set)) {
          if (join) {
            numbers.addAll(sets.get(set));
          } else {
            numbers.retainAll(sets.get(set));
          }
        }
      }
      return become(into, numbers);
    }

    Object find(int set, int at, int what) {
      set(set);
      wrongIf(what < 0 || what > 3);
      if (at < 0 && what < 2 || at < -1) {
        return refuse();
      }
      TreeSet<Integer> numbers = sets.get(set);
      Integer found;
      if (what == 0) {
        found = numbers.ceiling(at);
      } else if (what == 2) {
        found = numbers.floor(at);
      } else {
        int n = at;
        while (numbers.contains(n)) {
          n += what == 1 ? 1 : -1;
        }
        found = n;
      }
      return found == null ? -1 : found;
    }

    static BigInteger sum(TreeSet<Integer> numbers, int from, int to) {
      BigInteger sum = BigInteger.ZERO;
      for (int n : numbers.subSet(from, to)) {
        sum = sum.setBit(n - from);
      }
      return sum;
    }

    Object code(int set) {
      set(set);
      BigInteger h = BigInteger.valueOf(1234).xor(sum(sets.get(set), 0, 64))
          .xor(sum(sets.get(set), 64, 96).shiftLeft(1));
      return h.shiftRight(32).xor(h).intValue();
    }

    Object ofWords(int set, int what) {
      set(set);
      wrongIf(what < 0 || what > 3);
      TreeSet<Integer> numbers = sets.get(set);
      if (what == 0) {
        return numbers.isEmpty() ? 0 : numbers.last() / 64 + 1;
      }
      return sum(numbers, 32 * what - 32, 32 * what).intValue();
    }

    Object rank(int set, int number) {
      set(set);
      wrongIf(number < 0 || number > 96);
      return sets.get(set).headSet(number).size();
    }

    Object nth(int set, int n) {
      set(set);
      wrongIf(n < 0);
      return n < sets.get(set).size() ? new ArrayList<>(sets.get(set)).get(n) : -1;
    }

    Object sieve(int bound) {
      wrongIf(bound < 1 || bound > 95);
      upto = bound;
      last = 1;
      left = stretch(2, bound + 1);
      return left.size();
    }

    Object strike() {
      Integer p = left.higher(last);
      if (p == null) {
        return -1;
      }
      last = p;
      left.removeIf(n -> n > p && n % p == 0);
      return p;
    }

    Object ofSieve(int what) {
      wrongIf(what < 0 || what > 2);
      return what == 0 ? upto : what == 1 ? last : left.size();
    }

    TreeSet<Integer> rowOf(int point) {
      TreeSet<Integer> row = new TreeSet<>();
      for (int pair : pairs) {
        if (pair / 12 == point) {
          row.add(pair % 12);
        }
      }
      return row;
    }

    Object relate(int from, int to, boolean is) {
      point(from);
      point(to);
      return (is ? pairs.add(from * 12 + to) : pairs.remove(from * 12 + to)) ? 1 : 0;
    }

    Object rowFrom(int point, int set) {
      point(point);
      set(set);
      pairs.removeIf(pair -> pair / 12 == point);
      for (int n : sets.get(set).headSet(12)) {
        pairs.add(point * 12 + n);
      }
      return rowOf(point).size();
    }

    Object row(int point, int into) {
      point(point);
      set(into);
      return become(into, rowOf(point));
    }

    static TreeSet<Integer> closure(TreeSet<Integer> pairs) {
      TreeSet<Integer> all = new TreeSet<>(pairs);
      boolean more = true;
      while (more) {
        TreeSet<Integer> come = new TreeSet<>();
        for (int one : all) {
          for (int to = 0; to < 12; to++) {
            if (all.contains(one % 12 * 12 + to)) {
              come.add(one / 12 * 12 + to);
            }
          }
        }
        more = all.addAll(come);
      }
      return all;
    }

    Object close() {
      int before = pairs.size();
      pairs = closure(pairs);
      return pairs.size() - before;
    }

    Object converse() {
      TreeSet<Integer> turned = new TreeSet<>();
      for (int pair : pairs) {
        turned.add(pair % 12 * 12 + pair / 12);
      }
      pairs = turned;
      return pairs.size();
    }

    Object reach(int point, int into) {
      point(point);
      set(into);
      TreeSet<Integer> reached = new TreeSet<>();
      for (int pair : closure(pairs)) {
        if (pair / 12 == point) {
          reached.add(pair % 12);
        }
      }
      return become(into, reached);
    }

    static void ruleNumber(int rule) {
      if (rule < 0 || rule > 7) {
        throw new IndexOutOfBoundsException();
      }
    }

    Object rule(int rule, int set, int other) {
      ruleNumber(rule);
      set(set);
      set(other);
      thens.set(rule, new TreeSet<>(sets.get(other)));
      return ifs.set(rule, new TreeSet<>(sets.get(set))) == null ? 0 : 1;
    }

    Object noRule(int rule) {
      ruleNumber(rule);
      return ifs.set(rule, null) == null ? 0 : 1;
    }

    int notKept(TreeSet<Integer> numbers) {
      for (int rule = 0; rule < 8; rule++) {
        if (ifs.get(rule) != null && numbers.containsAll(ifs.get(rule))
            && !numbers.containsAll(thens.get(rule))) {
          return rule;
        }
      }
      return -1;
    }

    Object make(int set) {
      set(set);
      TreeSet<Integer> numbers = sets.get(set);
      int before = numbers.size();
      while (notKept(numbers) >= 0) {
        numbers.addAll(thens.get(notKept(numbers)));
      }
      return numbers.size() - before;
    }

    Object walk(int set) {
      set(set);
      if (sets.get(set).size() > 10) {
        return refuse();
      }
      whole = new ArrayList<>(sets.get(set));
      part = new TreeSet<>();
      gone = 0;
      return BigInteger.TWO.pow(whole.size()).intValue();
    }

    Object goOn() {
      if (gone == BigInteger.TWO.pow(whole.size()).intValue() - 1) {
        return -1;
      }
      gone++;
      int halved = 0;
      for (int rest = gone; rest % 2 == 0; rest /= 2) {
        halved++;
      }
      int x = whole.get(halved);
      if (!part.remove(x)) {
        part.add(x);
      }
      return x;
    }

    Object house(int what) {
      wrongIf(what < 0 || what > 6);
      int sizes = 0;
      for (TreeSet<Integer> numbers : sets) {
        sizes += numbers.size();
      }
      int there = 0;
      for (TreeSet<Integer> condition : ifs) {
        there += condition == null ? 0 : 1;
      }
      return new int[] {sizes, pairs.size(), there, gone, whole.size(), refusals, knocks}[what];
    }

    static String text(TreeSet<Integer> numbers) {
      return numbers.toString().replace('[', '{').replace(']', '}');
    }

    Object digest() {
      List<Object> all = new ArrayList<>();
      for (int what = 0; what < 7; what++) {
        all.add(house(what));
      }
      for (int set = 0; set < 6; set++) {
        TreeSet<Integer> numbers = sets.get(set);
        all.add(numbers.size());
        all.add(numbers.isEmpty() ? 0 : numbers.last() + 1);
        all.add(code(set));
        all.add(text(numbers).length());
        for (int what = 0; what < 4; what++) {
          all.add(ofWords(set, what));
        }
        for (int what = 0; what < 4; what++) {
          all.add(find(set, 50, what));
        }
        all.addAll(Arrays.asList(notKept(numbers) < 0, rank(set, 48), nth(set, 3)));
      }
      for (int pair = 0; pair < 36; pair++) {
        for (String name : new String[] {"areSame", "lies", "touch"}) {
          all.add(two(name, pair / 6, pair % 6));
        }
      }
      all.addAll(Arrays.asList(upto, last, left.size()));
      for (int pair = 0; pair < 144; pair++) {
        all.add(pairs.contains(pair));
      }
      all.add(closure(pairs).equals(pairs));
      all.add(true);
      long d = 7832;
      for (Object v : all) {
        d = d * 31 + (v instanceof Boolean ? (v.equals(true) ? 1 : 0) : (Integer) v);
      }
      return d;
    }

    Object answer(String name, int[] a, boolean is) {
      switch (name) {
        case "put":
        case "drop":
        case "flip":
        case "tell":
          return one(name, a[0], a[1], is);
        case "fill":
        case "drain":
        case "turn":
        case "stretch":
          return many(name, a[0], a[1], a[2], is, 0);
        case "part":
          return many(name, a[0], a[1], a[2], is, a[3]);
        case "empty":
          set(a[0]);
          int had = sets.get(a[0]).size();
          sets.get(a[0]).clear();
          return had;
        case "opposite":
          set(a[0]);
          return become(a[0], odd(sets.get(a[0]), stretch(0, 96)));
        case "words":
          return words(a[0], a[1], a[2]);
        case "joinAll":
        case "meetAll":
          return family(name.equals("joinAll"), a[0], a[1]);
        case "size":
          set(a[0]);
          return sets.get(a[0]).size();
        case "has":
          set(a[0]);
          return a[1] < 0 ? refuse() : sets.get(a[0]).contains(a[1]) ? 1 : 0;
        case "find":
          return find(a[0], a[1], a[2]);
        case "length":
          set(a[0]);
          return sets.get(a[0]).isEmpty() ? 0 : sets.get(a[0]).last() + 1;
        case "isEmpty":
          set(a[0]);
          return sets.get(a[0]).isEmpty();
        case "code":
          return code(a[0]);
        case "text":
          set(a[0]);
          return text(sets.get(a[0]));
        case "ofWords":
          return ofWords(a[0], a[1]);
        case "rank":
          return rank(a[0], a[1]);
        case "nth":
          return nth(a[0], a[1]);
        case "sieve":
          return sieve(a[0]);
        case "strike":
          return strike();
        case "left":
          set(a[0]);
          return become(a[0], left);
        case "ofSieve":
          return ofSieve(a[0]);
        default:
          return laterAnswer(name, a, is);
      }
    }

    Object laterAnswer(String name, int[] a, boolean is) {
      switch (name) {
        case "relate":
          return relate(a[0], a[1], is);
        case "rowFrom":
          return rowFrom(a[0], a[1]);
        case "row":
          return row(a[0], a[1]);
        case "close":
          return close();
        case "converse":
          return converse();
        case "reach":
          return reach(a[0], a[1]);
        case "isRelated":
          point(a[0]);
          point(a[1]);
          return pairs.contains(a[0] * 12 + a[1]);
        case "isClosed":
          return closure(pairs).equals(pairs);
        case "rule":
          return rule(a[0], a[1], a[2]);
        case "noRule":
          return noRule(a[0]);
        case "make":
          return make(a[0]);
        case "keeps":
          set(a[0]);
          return notKept(sets.get(a[0])) < 0;
        case "walk":
          return walk(a[0]);
        case "goOn":
          return goOn();
        case "now":
          set(a[0]);
          return become(a[0], part);
        case "knock":
          return ++knocks;
        case "house":
          return house(a[0]);
        case "isSound":
          return true;
        case "digest":
          return digest();
        default:
          return two(name, a[0], a[1]);
      }
    }
  }

  private static Object asked(Setsieve x, String name, int[] a, boolean is) throws Exception {
    for (java.lang.reflect.Method method : Setsieve.class.getMethods()) {
      if (method.getName().equals(name) && method.getDeclaringClass() == Setsieve.class) {
        Object[] given = new Object[method.getParameterCount()];
        for (int k = 0; k < given.length; k++) {
          given[k] = method.getParameterTypes()[k] == boolean.class ? (Object) is : (Object) a[k];
        }
        return method.invoke(x, given);
      }
    }
    return "no method";
  }

  private static int[] arguments(String name) {
    switch (name) {
      case "put": case "drop": case "flip": case "tell": case "has": case "rank":
        return new int[] {about(6), number()};
      case "fill": case "drain": case "turn": case "stretch": case "part":
        int from = number();
        int to = next(8) == 0 ? number() : from > 96 ? from : from + about(97 - from);
        return new int[] {about(6), from, to, about(6)};
      case "words":
        int few = 1 << next(32) | 1 << next(32);
        return new int[] {about(6), pick(few, 0, -1, (int) seed), pick(few, 0, (int) seed)};
      case "joinAll": case "meetAll":
        return new int[] {about(64), about(6)};
      case "find":
        return new int[] {about(6), number(), about(4)};
      case "ofWords":
        return new int[] {about(6), about(4)};
      case "nth":
        return new int[] {about(6), next(3) > 0 ? about(8) : number()};
      case "sieve":
        return new int[] {number()};
      case "ofSieve":
        return new int[] {about(3)};
      case "relate": case "isRelated":
        return new int[] {about(12), about(12)};
      case "rowFrom": case "row": case "reach":
        return new int[] {about(12), about(6)};
      case "rule":
        return new int[] {about(8), about(6), about(6)};
      case "noRule":
        return new int[] {about(8)};
      case "house":
        return new int[] {about(7)};
      default:
        return new int[] {about(6), about(6)};
    }
  }

  private static Object modelled(Model model, String name, int[] a, boolean is) {
    try {
      return model.answer(name, a, is);
    } catch (RuntimeException e) {
      return e.getClass();
    }
  }

  private static Object answered(Setsieve x, String name, int[] a, boolean is) throws Exception {
    try {
      return asked(x, name, a, is);
    } catch (java.lang.reflect.InvocationTargetException e) {
      return e.getCause().getClass();
    }
  }

  /** Some runs keep to few of the methods, so that what these build is not wiped by others. */
  private static String[] namesOfRun(int run) {
    if (run % 3 == 0) {
      return NAMES;
    }
    String[] some = new String[12];
    for (int k = 0; k < some.length; k++) {
      some[k] = NAMES[next(NAMES.length)];
    }
    some[0] = pick(0, 1) == 0 ? "put" : "stretch";
    some[1] = "digest";
    return some;
  }

  private static boolean isRunDue(int run) throws Exception {
    Setsieve x = new Setsieve();
    Model model = new Model();
    String[] names = namesOfRun(run);
    for (int call = 0; call < CALLS; call++) {
      String name = call == CALLS - 1 ? "digest" : names[next(names.length)];
      int[] a = arguments(name);
      boolean is = next(4) > 0;
      Object want = modelled(model, name, a, is);
      Object got = answered(x, name, a, is);
      if (!want.equals(got)) {
        System.out.println("run " + run + ", call " + call + ": " + name + Arrays.toString(a) + " "
            + is + " answered " + got + ", due is " + want);
        return false;
      }
    }
    return true;
  }

  public static void main(String[] args) throws Exception {
    int wrong = 0;
    for (int run = 0; run < RUNS; run++) {
      wrong += isRunDue(run) ? 0 : 1;
    }
    System.out.println(wrong == 0 ? "all runs are as the model's" : wrong + " runs are not");
    if (wrong != 0) {
      System.exit(1);
    }
  }
}
