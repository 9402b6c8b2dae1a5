/** Promises 1 to 14, the changing of sets, sentence by sentence at the edges. */
public final class ChangeEdgesTest {
  private static void newObject() {
    Checks.says("1 Setsieve", "Creates six sets without numbers");
    Setsieve x = new Setsieve();
    for (int set = 0; set < 6; set++) {
      Checks.due("text(" + set + ")", x.text(set), "{}");
      Checks.due("size(" + set + ")", x.size(set), 0);
    }
    Checks.due("text(6)", Checks.answer(x, y -> y.text(6)), Checks.NO_PLACE);
    x.stretch(0, 0, 96);
    Checks.due("another set", x.size(1), 0);
    Checks.due("another object", new Setsieve().size(0), 0);

    Checks.says("1 Setsieve", "a sieve .. without any (UPTO 1, LAST 1, none LEFT at first)");
    x = new Setsieve();
    Checks.due("UPTO", x.ofSieve(0), 1);
    Checks.due("LAST", x.ofSieve(1), 1);
    Checks.due("LEFT", x.ofSieve(2), 0);
    Checks.due("left(0)", x.left(0), 0);

    Checks.says("1 Setsieve", "a relation without any");
    Checks.due("pairs", x.house(1), 0);
    for (int pair = 0; pair < 144; pair++) {
      Checks.due("pair " + pair, x.isRelated(pair / 12, pair % 12), false);
    }

    Checks.says("3 Rules, walks", "RULES 0 to 7, or not (none at first)");
    for (int rule = 0; rule < 8; rule++) {
      Checks.due("noRule(" + rule + ")", x.noRule(rule), 0);
    }

    Checks.says("3 Rules, walks", "none of these at first .. its PART has none, GONE is 0");
    Checks.due("GONE", x.house(3), 0);
    Checks.due("numbers of the WALK", x.house(4), 0);
    Checks.due("now(0)", x.now(0), 0);
    Checks.due("REFUSED was told", x.house(5), 0);
    Checks.due("one knocked", x.house(6), 0);
  }

  // ---- one number

  private static void put() {
    Checks.says("2 put", "Returns how many numbers it has then");
    Setsieve x = new Setsieve();
    Checks.due("the least", x.put(0, 0), 1);
    Checks.due("the least again", x.put(0, 0), 1);
    Checks.due("the greatest", x.put(0, 95), 2);
    Checks.due("the greatest again", x.put(0, 95), 2);
    Checks.due("text(0)", x.text(0), "{0, 95}");
    Checks.due("into the last set", x.put(5, 94), 1);
    Checks.due("text(5)", x.text(5), "{94}");
    x = Checks.whole();
    Checks.due("into all", x.put(0, 0), 96);
    x.drop(0, 95);
    Checks.due("what lacked of all", x.put(0, 95), 96);
    Checks.due("text(0)", x.text(0), Checks.WHOLE);
    numberEdges("2 put", (y, set, number) -> y.put(set, number));
  }

  private static void drop() {
    Checks.says("3 drop", "Returns how many numbers it has then");
    Setsieve x = Checks.with(0, 1, 94, 95);
    Checks.due("the greatest", x.drop(0, 95), 3);
    Checks.due("the greatest again", x.drop(0, 95), 3);
    Checks.due("the least", x.drop(0, 0), 2);
    Checks.due("the least again", x.drop(0, 0), 2);
    Checks.due("text(0)", x.text(0), "{1, 94}");
    x.drop(0, 1);
    Checks.due("the only one", x.drop(0, 94), 0);
    Checks.due("out of none", x.drop(0, 94), 0);
    Checks.due("text(0)", x.text(0), "{}");
    Checks.due("out of all", Checks.whole().drop(0, 0), 95);
    numberEdges("3 drop", (y, set, number) -> y.drop(set, number));
  }

  private static void flip() {
    Checks.says("4 flip", "Returns how many numbers it has then");
    Setsieve x = new Setsieve();
    Checks.due("the least comes", x.flip(0, 0), 1);
    Checks.due("the greatest comes", x.flip(0, 95), 2);
    Checks.due("text(0)", x.text(0), "{0, 95}");
    Checks.due("the least goes", x.flip(0, 0), 1);
    Checks.due("the greatest goes", x.flip(0, 95), 0);
    Checks.due("text(0)", x.text(0), "{}");
    x = Checks.whole();
    Checks.due("out of all", x.flip(0, 95), 95);
    Checks.due("what lacked of all", x.flip(0, 95), 96);
    numberEdges("4 flip", (y, set, number) -> y.flip(set, number));
  }

  private static void tell() {
    Checks.says("5 tell", "Returns how many numbers it has then");
    Setsieve x = new Setsieve();
    Checks.due("the least is", x.tell(0, 0, true), 1);
    Checks.due("the greatest is", x.tell(0, 95, true), 2);
    Checks.due("the greatest is, again", x.tell(0, 95, true), 2);
    Checks.due("94 is not, as before", x.tell(0, 94, false), 2);
    Checks.due("text(0)", x.text(0), "{0, 95}");
    Checks.due("the greatest is not", x.tell(0, 95, false), 1);
    Checks.due("the least is not", x.tell(0, 0, false), 0);
    Checks.due("the least is not, again", x.tell(0, 0, false), 0);
    Checks.due("text(0)", x.text(0), "{}");
    x = Checks.whole();
    Checks.due("into all", x.tell(0, 95, true), 96);
    Checks.due("out of all", x.tell(0, 0, false), 95);
    numberEdges("5 tell true", (y, set, number) -> y.tell(set, number, true));
    numberEdges("5 tell false", (y, set, number) -> y.tell(set, number, false));
  }

  private static void numberEdges(String name, Checks.OfNumber call) {
    Checks.says(name, "REFUSED, if number is below 0");
    for (int number : new int[] {-1, Checks.REFUSED, -96, Checks.MIN}) {
      for (int set : new int[] {0, 4, 5}) {
        Checks.refused(set + ", " + number, x -> call.on(x, set, number));
      }
    }
    Checks.goes("0, 0", x -> call.on(x, 0, 0));
    Checks.goes("0, 1", x -> call.on(x, 0, 1));

    Checks.says(name, "Throws IllegalArgumentException if number is above 95");
    for (int number : new int[] {96, 97, 128, Checks.MAX}) {
      for (int set : new int[] {0, 4, 5}) {
        Checks.throwsIt(set + ", " + number, Checks.WRONG, x -> call.on(x, set, number));
      }
    }
    Checks.goes("0, 95", x -> call.on(x, 0, 95));
    Checks.goes("0, 94", x -> call.on(x, 0, 94));

    Checks.says(name, "Throws IndexOutOfBoundsException if there is no such SET");
    Checks.noSuchSet("7, set", (x, set) -> call.on(x, set, 7));

    Checks.says(name, "If several exceptions apply, the one that is named first is thrown");
    for (int set : new int[] {-1, 6, Checks.MIN, Checks.MAX}) {
      Checks.throwsIt(set + ", 96", Checks.NO_PLACE, x -> call.on(x, set, 96));
      Checks.throwsIt(set + ", MAX", Checks.NO_PLACE, x -> call.on(x, set, Checks.MAX));
    }

    Checks.says(name, "exceptions go ahead of it (REFUSED)");
    Checks.throwsIt("6, -1", Checks.NO_PLACE, x -> call.on(x, 6, -1));
    Checks.throwsIt("-1, MIN", Checks.NO_PLACE, x -> call.on(x, -1, Checks.MIN));
  }

  // ---- a STRETCH

  private static void fill() {
    Checks.says("6 fill", "Returns how many numbers it has then");
    Setsieve x = Checks.with(50);
    Checks.due("the least one is", x.fill(0, 0, 1, true), 2);
    Checks.due("the greatest one is", x.fill(0, 95, 96, true), 3);
    Checks.due("text(0)", x.text(0), "{0, 50, 95}");
    Checks.due("one that is not, is not", x.fill(0, 1, 2, false), 3);
    Checks.due("all between are not", x.fill(0, 1, 95, false), 2);
    Checks.due("text(0)", x.text(0), "{0, 95}");
    Checks.due("all are", x.fill(0, 0, 96, true), 96);
    Checks.due("all are, again", x.fill(0, 0, 96, true), 96);
    Checks.due("text(0)", x.text(0), Checks.WHOLE);
    Checks.due("all but the greatest are not", x.fill(0, 0, 95, false), 1);
    Checks.due("text(0)", x.text(0), "{95}");
    Checks.due("none are", x.fill(0, 0, 96, false), 0);
    Checks.due("none are, again", x.fill(0, 0, 96, false), 0);
    emptyStretch("6 fill true", (y, set, from, to) -> y.fill(set, from, to, true));
    emptyStretch("6 fill false", (y, set, from, to) -> y.fill(set, from, to, false));
    stretchEdges("6 fill true", (y, set, from, to) -> y.fill(set, from, to, true));
    stretchEdges("6 fill false", (y, set, from, to) -> y.fill(set, from, to, false));
  }

  private static void drain() {
    Checks.says("7 drain", "Returns how many numbers it has then");
    Setsieve x = Checks.whole();
    Checks.due("the least one", x.drain(0, 0, 1), 95);
    Checks.due("the greatest one", x.drain(0, 95, 96), 94);
    Checks.due("the greatest one again", x.drain(0, 95, 96), 94);
    Checks.due("all between but four", x.drain(0, 3, 93), 4);
    Checks.due("text(0)", x.text(0), "{1, 2, 93, 94}");
    Checks.due("all", x.drain(0, 0, 96), 0);
    Checks.due("all, again", x.drain(0, 0, 96), 0);
    Checks.due("of a full one all but two", Checks.whole().drain(0, 1, 95), 2);
    emptyStretch("7 drain", (y, set, from, to) -> y.drain(set, from, to));
    stretchEdges("7 drain", (y, set, from, to) -> y.drain(set, from, to));
  }

  private static void turn() {
    Checks.says("8 turn", "Returns how many numbers it has then");
    Setsieve x = new Setsieve();
    Checks.due("the least one comes", x.turn(0, 0, 1), 1);
    Checks.due("the greatest one comes", x.turn(0, 95, 96), 2);
    Checks.due("all between come", x.turn(0, 1, 95), 96);
    Checks.due("all go", x.turn(0, 0, 96), 0);
    Checks.due("all come", x.turn(0, 0, 96), 96);
    Checks.due("text(0)", x.text(0), Checks.WHOLE);
    Checks.due("all but the ends go", x.turn(0, 1, 95), 2);
    Checks.due("text(0)", x.text(0), "{0, 95}");
    Checks.due("of each some", x.turn(0, 94, 96), 2);
    Checks.due("text(0)", x.text(0), "{0, 94}");
    emptyStretch("8 turn", (y, set, from, to) -> y.turn(set, from, to));
    stretchEdges("8 turn", (y, set, from, to) -> y.turn(set, from, to));
  }

  private static void stretch() {
    Checks.says("9 stretch", "Returns how many numbers it has then");
    Setsieve x = Checks.with(50);
    Checks.due("the least one", x.stretch(0, 0, 1), 2);
    Checks.due("the greatest one", x.stretch(0, 95, 96), 3);
    Checks.due("the greatest one again", x.stretch(0, 95, 96), 3);
    Checks.due("text(0)", x.text(0), "{0, 50, 95}");
    Checks.due("all between", x.stretch(0, 1, 95), 96);
    Checks.due("all, again", x.stretch(0, 0, 96), 96);
    Checks.due("text(0)", x.text(0), Checks.WHOLE);
    emptyStretch("9 stretch", (y, set, from, to) -> y.stretch(set, from, to));
    stretchEdges("9 stretch", (y, set, from, to) -> y.stretch(set, from, to));
  }

  private static void emptyStretch(String name, Checks.OfStretch call) {
    Checks.says(name, "A STRETCH from a to b are .. none, if a is b");
    for (int end : new int[] {0, 1, 63, 64, 65, 95, 96}) {
      Checks.unchanged("0, " + end + ", " + end, Checks::busy, x -> call.on(x, 0, end, end), 5);
      Checks.unchanged("4, " + end + ", " + end, Checks::busy, x -> call.on(x, 4, end, end), 0);
      Checks.unchanged("5, " + end + ", " + end, Checks::busy, x -> call.on(x, 5, end, end), 96);
    }
  }

  private static void stretchEdges(String name, Checks.OfStretch call) {
    Checks.says(name, "REFUSED, if from is below 0");
    int[][] below = {
      {-1, -1}, {-1, 0}, {-1, 1}, {-1, 96}, {-64, 5}, {-9, -9}, {Checks.MIN, Checks.MIN},
      {Checks.MIN, 0}, {Checks.MIN, 96}, {-1, Checks.MIN}, {-2, -1},
    };
    refusedEnds(below, call);
    goesEnds(new int[][] {{0, 0}, {0, 1}, {0, 96}, {1, 96}}, call);

    Checks.says(name, "REFUSED, if from is .. above to");
    int[][] above = {
      {1, 0}, {2, 1}, {64, 63}, {65, 64}, {95, 94}, {96, 95}, {96, 0}, {0, -1}, {96, -1},
      {0, Checks.MIN}, {96, Checks.MIN},
    };
    refusedEnds(above, call);
    goesEnds(new int[][] {{1, 1}, {1, 2}, {64, 64}, {64, 65}, {95, 95}, {95, 96}}, call);

    Checks.says(name, "Throws IllegalArgumentException if from or to is above 96");
    int[][] far = {
      {0, 97}, {95, 97}, {96, 97}, {97, 97}, {97, 98}, {0, Checks.MAX}, {Checks.MAX, Checks.MAX},
    };
    wrongEnds(far, call);
    goesEnds(new int[][] {{0, 96}, {0, 95}, {96, 96}, {95, 96}}, call);

    Checks.says(name, "exceptions go ahead of it (REFUSED)");
    int[][] both = {
      {97, 0}, {97, 96}, {Checks.MAX, 0}, {97, -1}, {-1, 97}, {Checks.MIN, Checks.MAX},
      {Checks.MAX, Checks.MIN}, {98, 97},
    };
    wrongEnds(both, call);
    Checks.throwsIt("6, 1, 0", Checks.NO_PLACE, x -> call.on(x, 6, 1, 0));
    Checks.throwsIt("-1, -1, 0", Checks.NO_PLACE, x -> call.on(x, -1, -1, 0));

    Checks.says(name, "Throws IndexOutOfBoundsException if there is no such SET");
    Checks.noSuchSet("3 to 9, set", (x, set) -> call.on(x, set, 3, 9));
    Checks.noSuchSet("3 to 3, set", (x, set) -> call.on(x, set, 3, 3));

    Checks.says(name, "If several exceptions apply, the one that is named first is thrown");
    for (int set : new int[] {-1, 6, Checks.MIN, Checks.MAX}) {
      Checks.throwsIt(set + ", 0, 97", Checks.NO_PLACE, x -> call.on(x, set, 0, 97));
      Checks.throwsIt(set + ", 97, 0", Checks.NO_PLACE, x -> call.on(x, set, 97, 0));
    }
  }

  private static void refusedEnds(int[][] all, Checks.OfStretch call) {
    for (int[] ends : all) {
      for (int set : new int[] {0, 4, 5}) {
        Checks.refused(set + ", " + ends[0] + ", " + ends[1],
            x -> call.on(x, set, ends[0], ends[1]));
      }
    }
  }

  private static void goesEnds(int[][] all, Checks.OfStretch call) {
    for (int[] ends : all) {
      Checks.goes("0, " + ends[0] + ", " + ends[1], x -> call.on(x, 0, ends[0], ends[1]));
    }
  }

  private static void wrongEnds(int[][] all, Checks.OfStretch call) {
    for (int[] ends : all) {
      Checks.throwsIt("0, " + ends[0] + ", " + ends[1], Checks.WRONG,
          x -> call.on(x, 0, ends[0], ends[1]));
    }
  }

  // ---- whole sets

  private static void empty() {
    Checks.says("10 empty", "Returns how many it had");
    Setsieve x = Checks.with(0, 95);
    Checks.due("of the ends", x.empty(0), 2);
    Checks.due("text(0)", x.text(0), "{}");
    Checks.unchanged("of none", Checks::busy, y -> y.empty(4), 0);
    x = Checks.whole();
    x.put(5, 1);
    Checks.due("of all", x.empty(0), 96);
    Checks.due("text(0)", x.text(0), "{}");
    Checks.due("another set", x.text(5), "{1}");

    Checks.says("10 empty", "Throws IndexOutOfBoundsException if there is no such SET");
    Checks.noSuchSet("set", (y, set) -> y.empty(set));
  }

  private static void opposite() {
    Checks.says("11 opposite", "Returns how many numbers it has then");
    Setsieve x = new Setsieve();
    Checks.due("of none", x.opposite(0), 96);
    Checks.due("text(0)", x.text(0), Checks.WHOLE);
    Checks.due("of all", x.opposite(0), 0);
    Checks.due("text(0)", x.text(0), "{}");
    x.stretch(0, 1, 95);
    Checks.due("of all but the ends", x.opposite(0), 2);
    Checks.due("text(0)", x.text(0), "{0, 95}");
    Checks.due("of the ends", x.opposite(0), 94);
    Checks.due("another set", x.size(1), 0);

    Checks.says("11 opposite", "Throws IndexOutOfBoundsException if there is no such SET");
    Checks.noSuchSet("set", (y, set) -> y.opposite(set));
  }

  private static void copy() {
    Checks.says("12 copy", "A SET gets the numbers of another one (or the same)");
    Checks.unchanged("of the same", Checks::busy, y -> y.copy(0, 0), 5);
    Checks.unchanged("of none by the same", Checks::busy, y -> y.copy(4, 4), 0);
    Checks.unchanged("of all by the same", Checks::busy, y -> y.copy(5, 5), 96);

    Checks.says("12 copy", "Returns how many it has then");
    Setsieve x = Checks.with(0, 95);
    x.stretch(5, 3, 9);
    Checks.due("copy(0, 5)", x.copy(0, 5), 2);
    Checks.due("text(5)", x.text(5), "{0, 95}");
    Checks.due("text(0)", x.text(0), "{0, 95}");
    x.put(0, 1);
    x.drop(5, 95);
    Checks.due("both go on by themselves", x.text(0) + x.text(5), "{0, 1, 95}{0}");
    Checks.due("of none", x.copy(1, 0), 0);
    Checks.due("text(0)", x.text(0), "{}");
    x = Checks.whole();
    Checks.due("of all", x.copy(0, 1), 96);
    Checks.due("text(1)", x.text(1), Checks.WHOLE);

    Checks.says("12 copy", "Throws IndexOutOfBoundsException if there is no such SET (both)");
    Checks.noSuchSet("from", (y, set) -> y.copy(set, 1));
    Checks.noSuchSet("into", (y, set) -> y.copy(1, set));
    Checks.throwsIt("both", Checks.NO_PLACE, y -> y.copy(-1, 6));
  }

  private static void part() {
    Checks.says("13 part", "of those that another one (or the same) has, each less its from");
    Checks.unchanged("of the same, from 0", Checks::busy, y -> y.part(0, 0, 96, 0), 5);
    Setsieve x = Checks.with(0, 1, 63, 64, 65, 95);
    Checks.due("of the same, from 1", x.part(0, 1, 96, 0), 5);
    Checks.due("text(0)", x.text(0), "{0, 62, 63, 64, 94}");
    String[] texts = {
      "0 96 {0, 1, 63, 64, 65, 95}", "0 95 {0, 1, 63, 64, 65}", "0 1 {0}", "1 2 {0}",
      "1 96 {0, 62, 63, 64, 94}", "32 96 {31, 32, 33, 63}", "63 96 {0, 1, 2, 32}", "63 64 {0}",
      "64 96 {0, 1, 31}", "64 65 {0}", "64 64 {}", "65 96 {0, 30}", "2 63 {}", "2 64 {61}",
      "94 96 {1}", "95 96 {0}", "95 95 {}", "96 96 {}", "0 0 {}", "1 65 {0, 62, 63}",
    };
    for (String text : texts) {
      x = Checks.with(0, 1, 63, 64, 65, 95);
      x.stretch(5, 40, 90);
      String[] word = text.split(" ", 3);
      int got = x.part(0, Integer.parseInt(word[0]), Integer.parseInt(word[1]), 5);
      Checks.due(text, x.text(5), word[2]);
      Checks.due("how many in " + text, got, x.size(5));
      Checks.due("its source", x.text(0), "{0, 1, 63, 64, 65, 95}");
    }

    Checks.says("13 part", "Returns how many it has then");
    Checks.due("of none", new Setsieve().part(0, 0, 96, 1), 0);
    Checks.due("all of all", Checks.whole().part(0, 0, 96, 1), 96);
    Checks.due("all but one of all", Checks.whole().part(0, 1, 96, 1), 95);
    Checks.due("the last of all", Checks.whole().part(0, 95, 96, 0), 1);
    Checks.due("none of all", Checks.whole().part(0, 50, 50, 0), 0);

    stretchEdges("13 part", (y, set, from, to) -> y.part(set, from, to, 1));
    stretchEdges("13 part, into", (y, set, from, to) -> y.part(0, from, to, set));
    Checks.says("13 part", "Throws IndexOutOfBoundsException if there is no such SET (both)");
    Checks.throwsIt("both", Checks.NO_PLACE, y -> y.part(6, 0, 1, -1));
  }

  private static void words() {
    Checks.says("14 words", "n below 32 .. of low, n from 32 to 63 likewise by high");
    int[][] told = {
      {0, 0}, {1, 0}, {Checks.MIN, 0}, {0, 1}, {0, Checks.MIN}, {Checks.MIN, 1}, {3, 3},
      {1 << 30, 1 << 30},
    };
    String[] texts = {
      "{}", "{0}", "{31}", "{32}", "{63}", "{31, 32}", "{0, 1, 32, 33}", "{30, 62}",
    };
    for (int k = 0; k < told.length; k++) {
      Setsieve x = Checks.whole();
      x.words(0, told[k][0], told[k][1]);
      Checks.due(told[k][0] + ", " + told[k][1], x.text(0), texts[k]);
    }

    Checks.says("14 words", "A SET has just the numbers");
    Setsieve x = Checks.with(64, 95);
    Checks.due("without", x.words(0, 0, 0), 0);
    Checks.due("text(0)", x.text(0), "{}");

    Checks.says("14 words", "Returns how many numbers it has then");
    Checks.due("-1, 0", x.words(0, -1, 0), 32);
    Checks.due("length", x.length(0), 32);
    Checks.due("0, -1", x.words(0, 0, -1), 32);
    Checks.due("find", x.find(0, 0, 0), 32);
    Checks.due("-1, -1", x.words(0, -1, -1), 64);
    Checks.due("length", x.length(0), 64);
    Checks.due("MAX, MAX", x.words(0, Checks.MAX, Checks.MAX), 62);
    Checks.due("MIN, MIN", x.words(0, Checks.MIN, Checks.MIN), 2);
    Checks.due("-2, MAX", x.words(0, -2, Checks.MAX), 62);

    Checks.says("14 words", "Throws IndexOutOfBoundsException if there is no such SET");
    Checks.noSuchSet("set", (y, set) -> y.words(set, 9, 9));
    Checks.noSuchSet("set, -1, MIN", (y, set) -> y.words(set, -1, Checks.MIN));
  }

  public static void main(String[] args) {
    newObject();
    put();
    drop();
    flip();
    tell();
    fill();
    drain();
    turn();
    stretch();
    empty();
    opposite();
    copy();
    part();
    words();
    Checks.end();
  }
}
