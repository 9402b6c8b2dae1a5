import java.util.TreeSet;

/** Promises 46 to 52, the rules and the walk, sentence by sentence at the edges. */
public final class RuleEdgesTest {
  // ---- rules

  /** A RULE with as IF the numbers from a to b - 1, as THEN those from c to d - 1. */
  private static void give(Setsieve x, int rule, int a, int b, int c, int d) {
    x.empty(4);
    x.stretch(4, a, b);
    x.empty(5);
    x.stretch(5, c, d);
    x.rule(rule, 4, 5);
    x.empty(4);
    x.empty(5);
  }

  private static Setsieve ruled(int a, int b, int c, int d) {
    Setsieve x = new Setsieve();
    give(x, 0, a, b, c, d);
    return x;
  }

  /** Of {0} comes {0, .., 8}, each number by a RULE of its own; the last RULE makes the first. */
  private static Setsieve falling() {
    Setsieve x = new Setsieve();
    for (int step = 0; step < 8; step++) {
      give(x, 7 - step, step, step + 1, step + 1, step + 2);
    }
    x.put(0, 0);
    return x;
  }

  private static Setsieve rising() {
    Setsieve x = new Setsieve();
    for (int step = 0; step < 8; step++) {
      give(x, step, step, step + 1, step + 1, step + 2);
    }
    x.put(0, 0);
    return x;
  }

  private static void rule() {
    Checks.says("46 rule", "Returns 1 if there was that RULE, otherwise 0");
    Setsieve x = new Setsieve();
    for (int rule = 0; rule < 8; rule++) {
      Checks.due("a new one, " + rule, x.rule(rule, 0, 1), 0);
      Checks.due("how many", x.house(2), rule + 1);
      Checks.due("once more, " + rule, x.rule(rule, 1, 0), 1);
      Checks.due("how many", x.house(2), rule + 1);
    }
    x.noRule(7);
    Checks.due("when it went", x.rule(7, 0, 0), 0);
    Checks.due("when others went", x.noRule(6) + x.rule(7, 0, 0), 2);

    Checks.says("46 rule", "the numbers of a SET .. (as they are now)");
    x = Checks.with(0);
    x.put(1, 95);
    x.rule(0, 0, 1);
    x.put(0, 7);
    x.put(1, 8);
    x.put(2, 0);
    Checks.due("make(2)", x.make(2), 1);
    Checks.due("text(2)", x.text(2), "{0, 95}");
    x.rule(0, 0, 1);
    x.empty(0);
    x.empty(1);
    x.words(2, 129, 0);
    Checks.due("make(2), told anew", x.make(2), 2);
    Checks.due("text(2)", x.text(2), "{0, 7, 8, 95}");

    Checks.says("46 rule", "another SET, or the same");
    x = Checks.with(1, 2);
    Checks.due("rule(3, 0, 0)", x.rule(3, 0, 0), 0);
    Checks.due("it is kept by all", x.keeps(0) && x.keeps(1), true);
    Checks.due("none come", x.make(0) + x.make(1), 0);

    Checks.says("46 rule",
        "Throws IndexOutOfBoundsException if there is no such RULE number (0 to 7), or SET (both)");
    Checks.noSuchRule("rule", (y, rule) -> y.rule(rule, 1, 2));
    Checks.noSuchSet("IF", (y, set) -> y.rule(0, set, 1));
    Checks.noSuchSet("THEN", (y, set) -> y.rule(0, 1, set));
    Checks.noSuchSet("IF of a new one", (y, set) -> y.rule(3, set, 1));
    Checks.noSuchSet("THEN of a new one", (y, set) -> y.rule(3, 1, set));
    Checks.throwsIt("all", Checks.NO_PLACE, y -> y.rule(8, 6, -1));
  }

  private static void noRule() {
    Checks.says("47 noRule", "Returns 1 if it was there, otherwise 0");
    for (int rule = 0; rule < 8; rule++) {
      int number = rule;
      Checks.unchanged("without RULES, " + rule, Setsieve::new, x -> x.noRule(number), 0);
      Setsieve x = rising();
      Checks.due("of all, " + rule, x.noRule(rule), 1);
      Checks.due("again, " + rule, x.noRule(rule), 0);
      Checks.due("how many", x.house(2), 7);
      Checks.due("the others go on", x.make(0), rule);
    }

    Checks.says("47 noRule",
        "Throws IndexOutOfBoundsException if there is no such RULE number (0 to 7)");
    Checks.noSuchRule("rule", (x, rule) -> x.noRule(rule));
  }

  private static void make() {
    Checks.says("48 make", "RULES 0 to 7, or not (none at first)");
    Checks.unchanged("of none", Setsieve::new, x -> x.make(0), 0);
    Checks.unchanged("of all", Checks::whole, x -> x.make(0), 0);
    Checks.unchanged("of some", () -> Checks.with(0, 95), x -> x.make(0), 0);

    Checks.says("48 make", "A SET keeps a RULE, if its IF does not lie in it (an IF of none does)");
    Setsieve x = ruled(0, 0, 94, 96);
    Checks.due("of none", x.make(0), 2);
    Checks.due("text(0)", x.text(0), "{94, 95}");
    Checks.due("once more", x.make(0), 0);
    Checks.due("of all", ruledWhole(0, 0, 94, 96).make(0), 0);

    Checks.says("48 make", "or its THEN does not (a THEN of none does)");
    Checks.unchanged("an IF and THEN of none", () -> ruled(0, 0, 0, 0), y -> y.make(0), 0);
    Checks.unchanged("a THEN of none", () -> ruled(0, 1, 0, 0), y -> y.make(0), 0);
    Checks.unchanged("of all", () -> ruledWhole(0, 96, 0, 0), y -> y.make(0), 0);

    Checks.says("48 make", "Returns how many numbers came");
    Checks.due("all of none", ruled(0, 0, 0, 96).make(0), 96);
    x = ruled(0, 1, 0, 96);
    x.put(0, 0);
    Checks.due("all others", x.make(0), 95);
    Checks.due("text(0)", x.text(0), Checks.WHOLE);
    x = ruled(94, 96, 0, 1);
    x.put(0, 95);
    Checks.due("an IF in part", x.make(0), 0);
    x.put(0, 94);
    Checks.due("an IF in all", x.make(0), 1);
    x = ruled(5, 6, 8, 11);
    x.put(0, 5);
    x.put(0, 9);
    Checks.due("what it has does not come", x.make(0), 2);
    Checks.due("text(0)", x.text(0), "{5, 8, 9, 10}");
    Checks.due("RULES one by one, rising", rising().make(0), 8);
    Checks.due("RULES one by one, falling", falling().make(0), 8);
    x = falling();
    x.make(0);
    Checks.due("text(0)", x.text(0), "{0, 1, 2, 3, 4, 5, 6, 7, 8}");
    Checks.due("once more", x.make(0), 0);
    Checks.due("another set", x.make(1) + x.size(1), 0);

    Checks.says("48 make", "Throws IndexOutOfBoundsException if there is no such SET");
    Checks.noSuchSet("set", (y, set) -> y.make(set));
  }

  private static Setsieve ruledWhole(int a, int b, int c, int d) {
    Setsieve x = ruled(a, b, c, d);
    x.stretch(0, 0, 96);
    return x;
  }

  private static void keeps() {
    Checks.says("49 keeps", "Returns whether it keeps all RULES (none at first)");
    Checks.due("of none", new Setsieve().keeps(0), true);
    Checks.due("of all", Checks.whole().keeps(0), true);

    Checks.says("49 keeps", "if its IF does not lie in it, or its THEN does");
    Setsieve x = ruled(0, 0, 94, 96);
    Checks.due("an IF of none, in none", x.keeps(0), false);
    x.put(0, 95);
    Checks.due("a THEN in part", x.keeps(0), false);
    x.put(0, 94);
    Checks.due("a THEN in all", x.keeps(0), true);
    Checks.due("a THEN of none", ruled(0, 0, 5, 5).keeps(0), true);
    Checks.due("a THEN of none, in all", ruledWhole(0, 0, 5, 5).keeps(0), true);
    x = ruled(0, 96, 5, 6);
    x.stretch(0, 0, 95);
    Checks.due("an IF of all, of all but 95", x.keeps(0), true);
    x.drop(0, 5);
    x.put(0, 95);
    Checks.due("of all but 5", x.keeps(0), true);
    for (int rule = 0; rule < 8; rule++) {
      x = new Setsieve();
      give(x, rule, 0, 1, 95, 96);
      Checks.due("of none, by RULE " + rule, x.keeps(0), true);
      x.put(0, 0);
      Checks.due("of the IF, by RULE " + rule, x.keeps(0), false);
      x.noRule(rule);
      Checks.due("when it went", x.keeps(0), true);
    }
    x = falling();
    Checks.unchanged("keeps(0)", RuleEdgesTest::falling, y -> y.keeps(0), false);
    x.make(0);
    Checks.due("when it is made", x.keeps(0), true);
    x.drop(0, 8);
    Checks.due("but for the last", x.keeps(0), false);

    Checks.says("49 keeps", "Throws IndexOutOfBoundsException if there is no such SET");
    Checks.noSuchSet("set", (y, set) -> y.keeps(set));
  }

  // ---- walks

  private static Setsieve walked(int numbers, int steps) {
    Setsieve x = new Setsieve();
    x.stretch(0, 96 - numbers, 96);
    x.walk(0);
    for (int step = 0; step < steps; step++) {
      x.goOn();
    }
    return x;
  }

  private static void walk() {
    Checks.says("50 walk", "Returns how many PARTS there are");
    for (int numbers = 0; numbers <= 10; numbers++) {
      Setsieve x = new Setsieve();
      x.stretch(5, 96 - numbers, 96);
      Checks.due("of " + numbers, x.walk(5), 1 << numbers);
      Checks.due("its numbers", x.house(4), numbers);
      Checks.due("GONE", x.house(3), 0);
      Checks.due("REFUSED was told", x.house(5), 0);
      Checks.due("the set stays", x.size(5), numbers);
      Checks.due("PART", x.now(5), 0);
    }

    Checks.says("50 walk", "REFUSED, if it has more than 10 numbers");
    for (int numbers : new int[] {11, 12, 32, 64, 65, 95, 96}) {
      Checks.refused("of " + numbers, () -> begunAnd(numbers), x -> x.walk(1));
    }
    Checks.refused("of the WORLD", Checks::busy, x -> x.walk(5));
    Setsieve x = begunAnd(11);
    x.walk(1);
    x.drop(1, 0);
    Checks.due("when one of eleven went", x.walk(1), 1024);

    Checks.says("50 walk", "At first its PART has none of them, and GONE is 0");
    x = walked(3, 5);
    x.put(1, 7);
    Checks.due("a WALK after another", x.walk(1), 2);
    Checks.due("GONE", x.house(3), 0);
    Checks.due("PART", x.now(2), 0);
    Checks.due("its number", x.goOn(), 7);
    x = walked(3, 7);
    Checks.due("the same, from the beginning", x.walk(0), 8);
    Checks.due("GONE", x.house(3), 0);
    Checks.due("PART", x.now(2), 0);

    Checks.says("50 walk", "a set of n numbers (as it was as the WALK began)");
    x = walked(2, 1);
    x.empty(0);
    x.put(0, 7);
    Checks.due("its numbers", x.house(4), 2);
    Checks.due("a step", x.goOn(), 95);
    Checks.due("a step", x.goOn(), 94);
    Checks.due("its end", x.goOn(), Checks.NONE);

    Checks.says("50 walk", "Throws IndexOutOfBoundsException if there is no such SET");
    for (int set : new int[] {-1, 6, Checks.MIN, Checks.MAX}) {
      Checks.throwsIt("walk(" + set + ")", Checks.NO_PLACE, y -> y.walk(set));
    }
    for (int set = 0; set < 5; set++) {
      Setsieve y = new Setsieve();
      y.stretch(set, 0, 10);
      Checks.due("walk(" + set + ")", y.walk(set), 1024);
    }
  }

  /** A WALK of three numbers after two steps; the set 1 has so many numbers from 0 on. */
  private static Setsieve begunAnd(int numbers) {
    Setsieve x = walked(3, 2);
    x.stretch(1, 0, numbers);
    return x;
  }

  private static void goOn() {
    Checks.says("51 goOn", "Returns the number that came or went");
    Setsieve x = Checks.with(0, 63, 64, 95);
    x.walk(0);
    int[] steps = {0, 63, 0, 64, 0, 63, 0, 95, 0, 63, 0, 64, 0, 63, 0};
    for (int step = 0; step < steps.length; step++) {
      Checks.due("step " + (step + 1), x.goOn(), steps[step]);
      Checks.due("GONE", x.house(3), step + 1);
    }
    Checks.due("its end", x.goOn(), Checks.NONE);
    Checks.due("the last of the WORLD", walked(1, 0).goOn(), 95);
    Checks.due("step 508 of a WALK of ten", walkedOn(10, 508), "88 508");
    Checks.due("step 509 of a WALK of nine", walkedOn(9, 509), "87 509");

    Checks.says("51 goOn", "if GONE is 2^n - 1, it ends (nothing changes); NONE, if it ends");
    Checks.unchanged("of a new one", Setsieve::new, y -> y.goOn(), Checks.NONE);
    Checks.unchanged("of none", () -> walked(0, 0), y -> y.goOn(), Checks.NONE);
    Checks.unchanged("of none, again", () -> walked(0, 3), y -> y.goOn(), Checks.NONE);
    for (int numbers = 1; numbers <= 8; numbers++) {
      int of = numbers;
      int last = (1 << numbers) - 1;
      Checks.unchanged("of " + numbers, () -> walked(of, last), y -> y.goOn(), Checks.NONE);
      Checks.unchanged("again, of " + numbers, () -> walked(of, last + 1), y -> y.goOn(),
          Checks.NONE);
      x = walked(numbers, last);
      Checks.due("GONE of " + numbers, x.house(3), last);
      Checks.due("PART at the end of " + numbers, x.now(1), 1);
      Checks.due("its number", x.has(1, 95), 1);
      Checks.due("the last step of " + numbers, walked(numbers, last - 1).goOn(), 96 - numbers);
    }
  }

  /** The number of that step, and GONE then. */
  private static String walkedOn(int numbers, int steps) {
    Setsieve x = walked(numbers, steps - 1);
    return x.goOn() + " " + x.house(3);
  }

  private static void now() {
    Checks.says("52 now", "Returns how many numbers it has then");
    Setsieve x = Checks.whole();
    Checks.due("of a new one", x.now(0), 0);
    Checks.due("text(0)", x.text(0), "{}");
    x = walked(6, 0);
    TreeSet<String> seen = new TreeSet<>();
    for (int step = 0; step < 64; step++) {
      int got = x.now(5);
      Checks.due("how many", got, x.size(5));
      Checks.due("they lie in the set", x.lies(5, 0), true);
      seen.add(x.text(5));
      x.goOn();
    }
    Checks.due("each PART once", seen.size(), 64);
    Checks.due("with all of them", seen.contains("{90, 91, 92, 93, 94, 95}"), true);
    Checks.due("at the end", x.now(0), 1);
    Checks.due("text(0)", x.text(0), "{95}");
    x.empty(0);
    Checks.due("PART stays", x.now(1), 1);
    x = walked(10, 0);
    int most = 0;
    for (int step = 0; step < 200; step++) {
      x.goOn();
      most = Math.max(most, x.now(1));
    }
    Checks.due("most of 200 steps", most, 8);

    Checks.says("52 now", "Throws IndexOutOfBoundsException if there is no such SET");
    Checks.noSuchSet("set", (y, set) -> y.now(set));
  }

  public static void main(String[] args) {
    rule();
    noRule();
    make();
    keeps();
    walk();
    goOn();
    now();
    Checks.end();
  }
}
