/** Promises 15 to 33, sets with others and what is asked of them, sentence by sentence at edges. */
public final class SetsEdgesTest {
  private static final String[] TEXTS = {"{}", "{0, 63, 64, 95}", Checks.WHOLE};

  /** The sets 0 to 2: none, some, all; the sets 3 to 5 the same once more. */
  private static Setsieve three() {
    Setsieve x = new Setsieve();
    for (int set = 1; set < 6; set += 3) {
      x.put(set, 0);
      x.put(set, 63);
      x.put(set, 64);
      x.put(set, 95);
      x.stretch(set + 1, 0, 96);
    }
    return x;
  }

  // ---- two sets

  /** The texts of what comes of each with each: of none, some, all with none, some, all. */
  private static void twoSets(String name, Checks.OfNumber call, String[] texts) {
    Checks.says(name, "Returns how many numbers it has then");
    for (int pair = 0; pair < 9; pair++) {
      int set = pair / 3;
      int other = 3 + pair % 3;
      Setsieve x = three();
      Object got = call.on(x, set, other);
      Checks.due(TEXTS[set] + " with " + TEXTS[pair % 3], x.text(set), texts[pair]);
      Checks.due("how many then", got, x.size(set));
      Checks.due("the other one", x.text(other), TEXTS[pair % 3]);
      for (int third = 0; third < 6; third++) {
        if (third != set) {
          Checks.due("another one", x.text(third), TEXTS[third % 3]);
        }
      }
    }

    Checks.says(name, "another SET, or the same");
    for (int set = 0; set < 3; set++) {
      Setsieve x = three();
      Object got = call.on(x, set, set);
      Checks.due(TEXTS[set] + " with itself", x.text(set), texts[4 * set]);
      Checks.due("how many then", got, x.size(set));
    }
    noSuchSets(name, call);
  }

  private static void noSuchSets(String name, Checks.OfNumber call) {
    Checks.says(name, "Throws IndexOutOfBoundsException if there is no such SET (both)");
    Checks.noSuchSet("the first one", (x, set) -> call.on(x, set, 1));
    Checks.noSuchSet("the other one", (x, set) -> call.on(x, 1, set));
    Checks.throwsIt("both", Checks.NO_PLACE, x -> call.on(x, 6, -1));
    Checks.throwsIt("the same twice", Checks.NO_PLACE, x -> call.on(x, 6, 6));
  }

  private static void twoSets() {
    String none = TEXTS[0];
    String some = TEXTS[1];
    String all = TEXTS[2];
    String rest = Checks.WHOLE.replace("{0, ", "{").replace(" 63, 64,", "").replace(", 95}", "}");
    twoSets("15 join", (x, set, other) -> x.join(set, other),
        new String[] {none, some, all, some, some, all, all, all, all});
    twoSets("16 meet", (x, set, other) -> x.meet(set, other),
        new String[] {none, none, none, none, some, some, none, some, all});
    twoSets("17 less", (x, set, other) -> x.less(set, other),
        new String[] {none, none, none, some, none, none, all, rest, none});
    twoSets("18 odd", (x, set, other) -> x.odd(set, other),
        new String[] {none, some, all, some, none, rest, all, rest, none});

    Checks.says("15 join", "Returns how many numbers it has then (at an edge of a word)");
    Setsieve x = Checks.with(63);
    x.put(1, 64);
    Checks.due("join(0, 1)", x.join(0, 1), 2);
    Checks.due("odd(0, 1)", x.odd(0, 1), 1);
    Checks.due("meet(0, 1)", x.meet(0, 1), 0);
    Checks.due("less(1, 0)", x.less(1, 0), 1);
  }

  // ---- families

  /** Six sets: {0, 90 + k} each but for the last one, which has {0, 95, 7}. */
  private static Setsieve six() {
    Setsieve x = new Setsieve();
    for (int set = 0; set < 6; set++) {
      x.put(set, 0);
      x.put(set, 90 + set);
    }
    x.put(5, 7);
    return x;
  }

  private static void joinAll() {
    Checks.says("19 joinAll", "its JOIN .. of the FAMILY of none: no number");
    Setsieve x = Checks.busy();
    Checks.due("joinAll(0, 5)", x.joinAll(0, 5), 0);
    Checks.due("text(5)", x.text(5), "{}");

    Checks.says("19 joinAll", "a mask (0 to 63; 2^k for the SET k)");
    for (int set = 0; set < 6; set++) {
      x = six();
      Checks.due("of one " + set, x.joinAll(1 << set, 5 - set), set == 5 ? 3 : 2);
      Checks.due("text", x.text(5 - set), set == 5 ? "{0, 7, 95}" : "{0, 9" + set + "}");
    }

    Checks.says("19 joinAll", "Returns how many numbers it has then");
    Checks.due("of all, into one of them", six().joinAll(63, 3), 8);
    Checks.due("of all but the first", six().joinAll(62, 0), 7);
    Checks.due("of all but the last", six().joinAll(31, 5), 6);
    Checks.due("of new ones", new Setsieve().joinAll(63, 0), 0);
    Checks.due("with the WORLD in it", Checks.busy().joinAll(63, 4), 96);
    Checks.unchanged("of itself", Checks::busy, y -> y.joinAll(1, 0), 5);
    x = six();
    x.joinAll(63, 3);
    Checks.due("text(3)", x.text(3), "{0, 7, 90, 91, 92, 93, 94, 95}");
    Checks.due("of few, after all", x.joinAll(3, 4), 3);
    Checks.due("of none, after few", x.joinAll(0, 4), 0);
    Checks.due("of itself, after none", x.joinAll(32, 5), 3);
    Checks.due("the others", x.text(0) + x.text(5), "{0, 90}{0, 7, 95}");
    family("19 joinAll", (y, mask, into) -> y.joinAll(mask, into));
  }

  private static void meetAll() {
    Checks.says("20 meetAll", "its MEET .. of the FAMILY of none: the whole WORLD");
    Setsieve x = Checks.busy();
    Checks.due("meetAll(0, 4)", x.meetAll(0, 4), 96);
    Checks.due("text(4)", x.text(4), Checks.WHOLE);

    Checks.says("20 meetAll", "a mask (0 to 63; 2^k for the SET k)");
    for (int set = 0; set < 6; set++) {
      x = six();
      Checks.due("of one " + set, x.meetAll(1 << set, 5 - set), set == 5 ? 3 : 2);
      Checks.due("text", x.text(5 - set), set == 5 ? "{0, 7, 95}" : "{0, 9" + set + "}");
    }

    Checks.says("20 meetAll", "Returns how many numbers it has then");
    x = six();
    Checks.due("of all, into one of them", x.meetAll(63, 3), 1);
    Checks.due("text(3)", x.text(3), "{0}");
    Checks.due("the others", x.text(0) + x.text(5), "{0, 90}{0, 7, 95}");
    Checks.due("of new ones", new Setsieve().meetAll(63, 0), 0);
    Checks.due("with none in it", Checks.busy().meetAll(63, 0), 0);
    x = new Setsieve();
    for (int set = 0; set < 5; set++) {
      x.stretch(set, 0, 96);
    }
    Checks.due("of whole ones", x.meetAll(31, 5), 96);
    Checks.due("of all, whole ones", x.meetAll(63, 0), 96);
    x.drop(5, 95);
    Checks.due("of whole ones but for one", x.meetAll(63, 0), 95);
    Checks.due("of few, after all", x.meetAll(6, 0), 96);
    Checks.due("of none, after few", x.meetAll(0, 5), 96);
    Checks.unchanged("of itself", Checks::busy, y -> y.meetAll(1, 0), 5);
    family("20 meetAll", (y, mask, into) -> y.meetAll(mask, into));
  }

  private static void family(String name, Checks.OfNumber call) {
    Checks.says(name, "Throws IllegalArgumentException if mask is not 0 to 63");
    Checks.wrongOutside("mask", 0, 63, (x, mask) -> call.on(x, mask, 4));

    Checks.says(name, "Throws IndexOutOfBoundsException if there is no such SET");
    Checks.noSuchSet("of none, into", (x, set) -> call.on(x, 0, set));
    Checks.noSuchSet("of all, into", (x, set) -> call.on(x, 63, set));

    Checks.says(name, "If several exceptions apply, the one that is named first is thrown");
    Checks.throwsIt("64 into 6", Checks.NO_PLACE, x -> call.on(x, 64, 6));
    Checks.throwsIt("-1 into -1", Checks.NO_PLACE, x -> call.on(x, -1, -1));
    Checks.throwsIt("MIN into MAX", Checks.NO_PLACE, x -> call.on(x, Checks.MIN, Checks.MAX));
  }

  // ---- asking one set

  private static void size() {
    Checks.says("21 size", "Returns how many numbers it has");
    Checks.due("of none", new Setsieve().size(5), 0);
    Checks.due("of the least", Checks.with(0).size(0), 1);
    Checks.due("of the greatest", Checks.with(95).size(0), 1);
    Checks.due("at an edge of a word", Checks.with(31, 32, 63, 64).size(0), 4);
    Checks.due("of all", Checks.whole().size(0), 96);
    Checks.unchanged("size(0)", Checks::busy, x -> x.size(0), 5);

    Checks.says("21 size", "Throws IndexOutOfBoundsException if there is no such SET");
    Checks.noSuchSet("set", (x, set) -> x.size(set));
  }

  private static void has() {
    Checks.says("22 has", "Returns 1 if it has that number, otherwise 0");
    for (int number : new int[] {0, 1, 31, 32, 63, 64, 94, 95}) {
      Setsieve x = Checks.with(number);
      Checks.due("of what it has, " + number, x.has(0, number), 1);
      Checks.due("one less than " + number, number == 0 ? 0 : x.has(0, number - 1), 0);
      Checks.due("one more than " + number, x.has(0, number + 1), 0);
      Checks.due("32 more than " + number, x.has(0, number + 32), 0);
      Checks.due("64 more than " + number, x.has(0, number + 64), 0);
      Checks.due("of none", x.has(1, number), 0);
    }

    Checks.says("22 has", "otherwise 0 (a number above the WORLD: no SET has it)");
    for (int number : new int[] {96, 97, 127, 128, 160, 192, 1 << 30, Checks.MAX - 1, Checks.MAX}) {
      Checks.unchanged("of the WORLD, " + number, Checks::busy, x -> x.has(5, number), 0);
    }
    Checks.unchanged("95 of the WORLD", Checks::busy, x -> x.has(5, 95), 1);

    Checks.says("22 has", "REFUSED, if number is below 0");
    for (int number : new int[] {-1, -2, -32, -64, -96, Checks.MIN}) {
      Checks.refused("has(5, " + number + ")", x -> x.has(5, number));
      Checks.refused("has(4, " + number + ")", x -> x.has(4, number));
    }
    Checks.unchanged("0 of the WORLD", Checks::busy, x -> x.has(5, 0), 1);

    Checks.says("22 has", "Throws IndexOutOfBoundsException if there is no such SET");
    Checks.noSuchSet("5, set", (x, set) -> x.has(set, 5));

    Checks.says("22 has", "exceptions go ahead of it (REFUSED)");
    Checks.throwsIt("has(6, -1)", Checks.NO_PLACE, x -> x.has(6, -1));
    Checks.throwsIt("has(-1, 96)", Checks.NO_PLACE, x -> x.has(-1, 96));
  }

  /** Rows of: where one begins, what is asked, what is due. */
  private static void found(Setsieve x, String of, int[][] rows) {
    for (int[] row : rows) {
      Checks.due("find(" + of + ", " + row[0] + ", " + row[1] + ")", x.find(0, row[0], row[1]),
          row[2]);
    }
    Checks.due("REFUSED was told", x.house(5), 0);
  }

  private static void find() {
    Checks.says("23 find", "0: the least number from there on that it has (NONE without)");
    found(Checks.with(1, 63, 64, 94), "some", new int[][] {
      {0, 0, 1}, {1, 0, 1}, {2, 0, 63}, {63, 0, 63}, {64, 0, 64}, {65, 0, 94}, {94, 0, 94},
      {95, 0, -1}, {96, 0, -1}, {Checks.MAX, 0, -1}});
    found(new Setsieve(), "none", new int[][] {{0, 0, -1}, {95, 0, -1}, {Checks.MAX, 0, -1}});
    found(Checks.whole(), "all", new int[][] {
      {0, 0, 0}, {63, 0, 63}, {94, 0, 94}, {95, 0, 95}, {96, 0, -1}, {97, 0, -1},
      {Checks.MAX, 0, -1}});

    Checks.says("23 find", "1: the least one from there on that it has not (of all numbers)");
    found(Checks.with(1, 63, 64, 95), "some", new int[][] {
      {0, 1, 0}, {1, 1, 2}, {62, 1, 62}, {63, 1, 65}, {64, 1, 65}, {94, 1, 94}, {95, 1, 96},
      {96, 1, 96}, {97, 1, 97}, {Checks.MAX - 1, 1, Checks.MAX - 1},
      {Checks.MAX, 1, Checks.MAX}});
    found(new Setsieve(), "none", new int[][] {
      {0, 1, 0}, {95, 1, 95}, {96, 1, 96}, {Checks.MAX, 1, Checks.MAX}});
    found(Checks.whole(), "all", new int[][] {
      {0, 1, 96}, {64, 1, 96}, {95, 1, 96}, {96, 1, 96}, {97, 1, 97},
      {Checks.MAX, 1, Checks.MAX}});

    Checks.says("23 find", "2: the greatest one up to there that it has (NONE without)");
    found(Checks.with(1, 63, 64, 94), "some", new int[][] {
      {-1, 2, -1}, {0, 2, -1}, {1, 2, 1}, {62, 2, 1}, {63, 2, 63}, {64, 2, 64}, {93, 2, 64},
      {94, 2, 94}, {95, 2, 94}, {96, 2, 94}, {Checks.MAX, 2, 94}});
    found(new Setsieve(), "none", new int[][] {
      {-1, 2, -1}, {0, 2, -1}, {95, 2, -1}, {Checks.MAX, 2, -1}});
    found(Checks.whole(), "all", new int[][] {
      {-1, 2, -1}, {0, 2, 0}, {95, 2, 95}, {96, 2, 95}, {Checks.MAX, 2, 95}});

    Checks.says("23 find", "3: the greatest one of 0 up to there that it has not (NONE without)");
    found(Checks.with(0, 1, 63, 64, 95), "some", new int[][] {
      {-1, 3, -1}, {0, 3, -1}, {1, 3, -1}, {2, 3, 2}, {62, 3, 62}, {64, 3, 62}, {65, 3, 65},
      {94, 3, 94}, {95, 3, 94}, {96, 3, 96}, {97, 3, 97}, {Checks.MAX, 3, Checks.MAX}});
    found(new Setsieve(), "none", new int[][] {
      {-1, 3, -1}, {0, 3, 0}, {95, 3, 95}, {96, 3, 96}, {Checks.MAX, 3, Checks.MAX}});
    found(Checks.whole(), "all", new int[][] {
      {-1, 3, -1}, {0, 3, -1}, {95, 3, -1}, {96, 3, 96}, {97, 3, 97},
      {Checks.MAX, 3, Checks.MAX}});
    findOutside();
  }

  private static void findOutside() {
    Checks.says("23 find", "REFUSED, if at is below 0");
    for (int what = 0; what <= 1; what++) {
      int asked = what;
      for (int at : new int[] {-1, -2, -96, Checks.MIN}) {
        Checks.refused("find(0, " + at + ", " + what + ")", x -> x.find(0, at, asked));
        Checks.refused("find(4, " + at + ", " + what + ")", x -> x.find(4, at, asked));
      }
      Checks.unchanged("find(4, 0, " + what + ")", Checks::busy, x -> x.find(4, 0, asked),
          what == 0 ? Checks.NONE : 0);
    }

    Checks.says("23 find", "REFUSED, .. of 2 and 3 if it is below NONE");
    for (int what = 2; what <= 3; what++) {
      int asked = what;
      for (int at : new int[] {-2, -3, -96, Checks.MIN}) {
        Checks.refused("find(0, " + at + ", " + what + ")", x -> x.find(0, at, asked));
        Checks.refused("find(5, " + at + ", " + what + ")", x -> x.find(5, at, asked));
      }
      Checks.unchanged("find(0, -1, " + what + ")", Checks::busy, x -> x.find(0, -1, asked), -1);
    }

    Checks.says("23 find", "Throws IllegalArgumentException if what is not 0 to 3");
    Checks.wrongOutside("5, what", 0, 3, (x, what) -> x.find(0, 5, what));

    Checks.says("23 find", "Throws IndexOutOfBoundsException if there is no such SET");
    for (int what = 0; what <= 3; what++) {
      int asked = what;
      Checks.noSuchSet("5, " + what + ", set", (x, set) -> x.find(set, 5, asked));
    }

    Checks.says("23 find", "If several exceptions apply, the one that is named first is thrown");
    Checks.throwsIt("find(6, 5, 4)", Checks.NO_PLACE, x -> x.find(6, 5, 4));
    Checks.throwsIt("find(-1, -2, -1)", Checks.NO_PLACE, x -> x.find(-1, -2, -1));

    Checks.says("23 find", "exceptions go ahead of it (REFUSED)");
    Checks.throwsIt("find(0, -1, 4)", Checks.WRONG, x -> x.find(0, -1, 4));
    Checks.throwsIt("find(0, -2, -1)", Checks.WRONG, x -> x.find(0, -2, -1));
    Checks.throwsIt("find(0, MIN, MAX)", Checks.WRONG, x -> x.find(0, Checks.MIN, Checks.MAX));
    Checks.throwsIt("find(6, -1, 0)", Checks.NO_PLACE, x -> x.find(6, -1, 0));
    Checks.throwsIt("find(6, -2, 3)", Checks.NO_PLACE, x -> x.find(6, -2, 3));
  }

  private static void length() {
    Checks.says("24 length", "Returns its greatest number and 1; 0 without");
    Checks.due("of none", new Setsieve().length(0), 0);
    for (int number : new int[] {0, 1, 31, 32, 62, 63, 64, 65, 94, 95}) {
      Checks.due("of " + number, Checks.with(number).length(0), number + 1);
      Checks.due("of 0 and " + number, Checks.with(0, number).length(0), number + 1);
    }
    Checks.due("of all", Checks.whole().length(0), 96);
    Setsieve x = Checks.with(0, 95);
    x.drop(0, 95);
    Checks.due("when its greatest one went", x.length(0), 1);
    Checks.unchanged("length(0)", Checks::busy, y -> y.length(0), 96);

    Checks.says("24 length", "Throws IndexOutOfBoundsException if there is no such SET");
    Checks.noSuchSet("set", (y, set) -> y.length(set));
  }

  private static void isEmpty() {
    Checks.says("25 isEmpty", "Returns whether it has no numbers");
    Checks.due("of none", new Setsieve().isEmpty(5), true);
    for (int number : new int[] {0, 31, 32, 63, 64, 95}) {
      Setsieve x = Checks.with(number);
      Checks.due("of " + number, x.isEmpty(0), false);
      x.drop(0, number);
      Checks.due("when " + number + " went", x.isEmpty(0), true);
    }
    Checks.due("of all", Checks.whole().isEmpty(0), false);
    Checks.unchanged("isEmpty(4)", Checks::busy, y -> y.isEmpty(4), true);

    Checks.says("25 isEmpty", "Throws IndexOutOfBoundsException if there is no such SET");
    Checks.noSuchSet("set", (y, set) -> y.isEmpty(set));
  }

  // ---- asking two sets

  /** A row of nine 0 or 1: of none, some, all with none, some, all. */
  private static void compared(String name, Checks.OfNumber call, String due) {
    for (int pair = 0; pair < 9; pair++) {
      int set = pair / 3;
      int other = pair % 3;
      boolean is = due.charAt(pair) == '1';
      String what = TEXTS[set] + " with " + TEXTS[other];
      Checks.due(what, call.on(three(), set, other), is);
      Checks.due(what + ", of others", call.on(three(), set, other + 3), is);
      Checks.due(what + ", of others", call.on(three(), set + 3, other), is);
    }
    Object want = call.on(Checks.busy(), 0, 1);
    Checks.unchanged("0 and 1", Checks::busy, x -> call.on(x, 0, 1), want);
    noSuchSets(name, call);
  }

  private static void touch() {
    Checks.says("26 touch", "Returns whether both have a number in common");
    for (int number : new int[] {0, 31, 32, 63, 64, 95}) {
      Setsieve x = Checks.with(number);
      x.stretch(1, 0, 96);
      Checks.due("by " + number, x.touch(0, 1) && x.touch(1, 0) && x.touch(0, 0), true);
      x.drop(1, number);
      Checks.due("but for " + number, x.touch(0, 1) || x.touch(1, 0), false);
    }
    compared("26 touch", (x, set, other) -> x.touch(set, other), "000011011");
  }

  private static void areSame() {
    Checks.says("27 areSame", "Returns whether both have the same numbers");
    for (int number : new int[] {0, 31, 32, 63, 64, 95}) {
      Setsieve x = three();
      x.flip(1, number);
      x.flip(2, number);
      x.flip(0, number);
      Checks.due("none but for " + number, x.areSame(0, 3) || x.areSame(3, 0), false);
      Checks.due("some but for " + number, x.areSame(1, 4) || x.areSame(4, 1), false);
      Checks.due("all but for " + number, x.areSame(2, 5) || x.areSame(5, 2), false);
    }
    compared("27 areSame", (x, set, other) -> x.areSame(set, other), "100010001");
  }

  private static void lies() {
    Checks.says("28 lies", "Returns whether the first one LIES in the other one");
    for (int number : new int[] {0, 31, 32, 63, 64, 95}) {
      Setsieve x = three();
      x.drop(2, number);
      Checks.due("in all but " + number, x.lies(5, 2), false);
      Checks.due("all but " + number + " in all", x.lies(2, 5), true);
      x.empty(0);
      x.put(0, number);
      Checks.due(number + " in all", x.lies(0, 5), true);
      Checks.due(number + " in all others", x.lies(0, 2), false);
      Checks.due(number + " in none", x.lies(0, 3), false);
    }
    compared("28 lies", (x, set, other) -> x.lies(set, other), "111011001");
  }

  // ---- words

  private static void code() {
    Checks.says("29 code", "Returns its CODE (64 binary digits, the upper 32 xor the lower 32)");
    Object[][] codes = {
      {"{}", 1234, 0, 0}, {"{0}", 1235, 0, 1}, {"{1}", 1232, 1, 2}, {"{4}", 1218, 4, 5},
      {"{31}", -2147482414, 31, 32}, {"{32}", 1235, 32, 33}, {"{63}", -2147482414, 63, 64},
      {"{64}", 1232, 64, 65}, {"{94}", -2147482414, 94, 95}, {"{95}", 1235, 95, 96},
      {"{0, .., 31}", -1235, 0, 32}, {"{32, .., 63}", -1235, 32, 64},
      {"{0, .., 63}", 1234, 0, 64}, {"{64, .., 95}", -1235, 64, 96},
      {"{0, .., 95}", -1235, 0, 96}, {"{63, 64}", -2147482416, 63, 65},
    };
    for (Object[] row : codes) {
      Setsieve x = new Setsieve();
      x.stretch(5, (int) row[2], (int) row[3]);
      Checks.due("of " + row[0], x.code(5), row[1]);
    }
    Checks.due("of {31, 63}", Checks.with(31, 63).code(0), 1234);
    Checks.unchanged("code(0)", Checks::busy, y -> y.code(4), 1234);

    Checks.says("29 code", "Throws IndexOutOfBoundsException if there is no such SET");
    Checks.noSuchSet("set", (y, set) -> y.code(set));
  }

  private static void text() {
    Checks.says("30 text", "\"{\", its numbers, rising, with \", \" between, \"}\"");
    Checks.due("of none", new Setsieve().text(0), "{}");
    Checks.due("of one", Checks.with(0).text(0), "{0}");
    Checks.due("of the greatest", Checks.with(95).text(0), "{95}");
    Checks.due("of two, put falling", Checks.with(95, 0).text(0), "{0, 95}");
    Checks.due("of one and two signs", Checks.with(9, 10).text(0), "{9, 10}");
    Checks.due("at an edge of a word", Checks.with(64, 63, 32, 31).text(0), "{31, 32, 63, 64}");
    Checks.due("of all", Checks.whole().text(0), Checks.WHOLE);
    Checks.unchanged("text(0)", Checks::busy, y -> y.text(0), "{0, 5, 63, 64, 95}");

    Checks.says("30 text", "Throws IndexOutOfBoundsException if there is no such SET");
    Checks.noSuchSet("set", (y, set) -> y.text(set));
  }

  private static void ofWords() {
    Checks.says("31 ofWords", "0: how many WORDS (as many as are needed; none without)");
    Checks.due("of none", new Setsieve().ofWords(0, 0), 0);
    for (int number : new int[] {0, 31, 32, 62, 63}) {
      Checks.due("of " + number, Checks.with(number).ofWords(0, 0), 1);
    }
    for (int number : new int[] {64, 65, 94, 95}) {
      Checks.due("of " + number, Checks.with(number).ofWords(0, 0), 2);
      Checks.due("of 0 and " + number, Checks.with(0, number).ofWords(0, 0), 2);
    }
    Checks.due("of all", Checks.whole().ofWords(0, 0), 2);
    Setsieve x = Checks.with(63, 64);
    x.drop(0, 64);
    Checks.due("when 64 went", x.ofWords(0, 0), 1);

    Checks.says("31 ofWords", "1 to 3: .. the sum of 2^n, less 2^32 from 2^31 on");
    for (int third = 0; third < 3; third++) {
      int first = 32 * third;
      int what = third + 1;
      Checks.due("of its least, " + first, Checks.with(first).ofWords(0, what), 1);
      Checks.due("of 2^30, " + what, Checks.with(first + 30).ofWords(0, what), 1 << 30);
      Checks.due("of 2^31, " + what, Checks.with(first + 31).ofWords(0, what), Checks.MIN);
      x = new Setsieve();
      x.stretch(0, first, first + 31);
      Checks.due("of 2^31 - 1, " + what, x.ofWords(0, what), Checks.MAX);
      x.put(0, first + 31);
      Checks.due("of 2^32 - 1, " + what, x.ofWords(0, what), -1);
      x.opposite(0);
      Checks.due("of all others, " + what, x.ofWords(0, what), 0);
      Checks.due("of none, " + what, x.ofWords(1, what), 0);
      Checks.due("of all, " + what, Checks.whole().ofWords(0, what), -1);
    }
    Checks.unchanged("ofWords(0, 3)", Checks::busy, y -> y.ofWords(0, 3), Checks.MIN + 1);

    Checks.says("31 ofWords", "Throws IllegalArgumentException if what is not 0 to 3");
    Checks.wrongOutside("what", 0, 3, (y, what) -> y.ofWords(0, what));

    Checks.says("31 ofWords", "Throws IndexOutOfBoundsException if there is no such SET");
    Checks.noSuchSet("0, set", (y, set) -> y.ofWords(set, 0));
    Checks.noSuchSet("3, set", (y, set) -> y.ofWords(set, 3));

    Checks.says("31 ofWords", "If several exceptions apply, the one that is named first is thrown");
    Checks.throwsIt("ofWords(6, 4)", Checks.NO_PLACE, y -> y.ofWords(6, 4));
    Checks.throwsIt("ofWords(-1, -1)", Checks.NO_PLACE, y -> y.ofWords(-1, -1));
  }

  // ---- counting

  private static void rank() {
    Checks.says("32 rank", "Returns how many of its numbers are below that number");
    int[] some = {0, 1, 63, 64, 95};
    int[][] ranks = {
      {0, 0}, {1, 1}, {2, 2}, {63, 2}, {64, 3}, {65, 4}, {94, 4}, {95, 4}, {96, 5},
    };
    for (int[] row : ranks) {
      Checks.due("rank(some, " + row[0] + ")", Checks.with(some).rank(0, row[0]), row[1]);
    }
    for (int number : new int[] {0, 1, 31, 32, 33, 63, 64, 65, 95, 96}) {
      Checks.due("rank(all, " + number + ")", Checks.whole().rank(0, number), number);
      Checks.due("rank(none, " + number + ")", new Setsieve().rank(0, number), 0);
    }
    Checks.unchanged("rank(0, 96)", Checks::busy, x -> x.rank(0, 96), 5);

    Checks.says("32 rank", "Throws IllegalArgumentException if number is not 0 to 96");
    Checks.wrongOutside("number", 0, 96, (x, number) -> x.rank(0, number));

    Checks.says("32 rank", "Throws IndexOutOfBoundsException if there is no such SET");
    Checks.noSuchSet("0, set", (x, set) -> x.rank(set, 0));
    Checks.noSuchSet("96, set", (x, set) -> x.rank(set, 96));

    Checks.says("32 rank", "If several exceptions apply, the one that is named first is thrown");
    Checks.throwsIt("rank(6, 97)", Checks.NO_PLACE, x -> x.rank(6, 97));
    Checks.throwsIt("rank(-1, -1)", Checks.NO_PLACE, x -> x.rank(-1, -1));
  }

  private static void nth() {
    Checks.says("33 nth", "Returns that of its numbers below which there are n others of it");
    int[] some = {0, 31, 63, 64, 95};
    for (int n = 0; n < some.length; n++) {
      Checks.due("nth(some, " + n + ")", Checks.with(some).nth(0, n), some[n]);
    }
    for (int n : new int[] {0, 1, 31, 32, 62, 63, 64, 65, 94, 95}) {
      Checks.due("nth(all, " + n + ")", Checks.whole().nth(0, n), n);
    }
    Checks.due("nth({95}, 0)", Checks.with(95).nth(0, 0), 95);
    Checks.due("nth({63, 64}, 1)", Checks.with(63, 64).nth(0, 1), 64);

    Checks.says("33 nth", "NONE without");
    for (int n : new int[] {5, 6, 64, 95, 96, Checks.MAX}) {
      Checks.due("nth(some, " + n + ")", Checks.with(some).nth(0, n), Checks.NONE);
    }
    for (int n : new int[] {96, 97, 128, Checks.MAX}) {
      Checks.due("nth(all, " + n + ")", Checks.whole().nth(0, n), Checks.NONE);
    }
    for (int n : new int[] {0, 1, 95, Checks.MAX}) {
      Checks.due("nth(none, " + n + ")", new Setsieve().nth(0, n), Checks.NONE);
    }
    Checks.unchanged("nth(4, 0)", Checks::busy, x -> x.nth(4, 0), Checks.NONE);

    Checks.says("33 nth", "Throws IllegalArgumentException if n is below 0");
    for (int n : new int[] {-1, -2, -96, Checks.MIN}) {
      Checks.throwsIt("nth(0, " + n + ")", Checks.WRONG, x -> x.nth(0, n));
      Checks.throwsIt("nth(4, " + n + ")", Checks.WRONG, x -> x.nth(4, n));
    }
    Checks.goes("nth(0, 0)", x -> x.nth(0, 0));

    Checks.says("33 nth", "Throws IndexOutOfBoundsException if there is no such SET");
    Checks.noSuchSet("0, set", (x, set) -> x.nth(set, 0));

    Checks.says("33 nth", "If several exceptions apply, the one that is named first is thrown");
    Checks.throwsIt("nth(6, -1)", Checks.NO_PLACE, x -> x.nth(6, -1));
    Checks.throwsIt("nth(-1, MIN)", Checks.NO_PLACE, x -> x.nth(-1, Checks.MIN));
  }

  public static void main(String[] args) {
    twoSets();
    joinAll();
    meetAll();
    size();
    has();
    find();
    length();
    isEmpty();
    touch();
    areSame();
    lies();
    code();
    text();
    ofWords();
    rank();
    nth();
    Checks.end();
  }
}
