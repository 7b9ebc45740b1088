/** The edges of Part 5 and of the promises 43 to 52: paths. */
final class PathEdges extends Edges {
  private static final long A = in(0);
  private static final long B = in(1);

  static void all() {
    isHeading("Part 5, paths.");
    samePath();
    order();
    termsOfPaths();
    elements();
    merged();
    mergedInLoopsAndCalls();
    conditions();
    conditionsOfNumbers();
    rowsNotLet();
    outputsOfPaths();
    pathsTold();
    pathsTaken();
    conditionsTold();
  }

  private static void samePath() {
    says("Two rows take the same path of a program if their walks have the same");
    eq("no forks", with("i0,0;o0;").paths(0), 1);
    eq("nothing at all", fresh().paths(0), 1);
    eq("unlike outputs, the same sides", with("i0,0;k1,1;/2,0,1;o2;").paths(0), 1);
    eq("the same end, unlike sides", with("i0,0;?0;:;.;").paths(0), 2);
    String each = "i0,0;i1,1;i2,2;i3,3;k4,1;k5,2;"
        + "&6,0,4;?6;.;&6,0,5;?6;.;&6,1,4;?6;.;&6,1,5;?6;.;?2;.;?3;.;";
    Pathwright x = with(each);
    eq("each row its own", x.paths(0), 64);
    int same = 0;
    for (int row = 0; row < 64; row++) {
      same += x.path(0, row) == row && x.taken(0, row, 'n') == 1
          && x.taken(0, row, 'f') == row ? 1 : 0;
    }
    eq("just the one row on each", same, 64);
    x.merge(0, true);
    eq("plain blocks left out", x.paths(0), 1);
    eq("the same sides, one behind the other",
        with("i0,0;i1,1;?0;.;?1;.;").path(0, 1) + " " + with("i0,0;i1,1;?1;.;?0;.;").path(0, 1),
        "1 1");
    eq("one round more", with("i0,0;k1,1;w0;-0,0,1;.;").paths(0), 4);
    eq("a side that differs at the last fork of many",
        with("k1,1;k2,6;i0,0;k3,1;" + "w2;-2,2,1;?2;.;?2;.;?2;.;?2;.;.;" + "?0;.;").paths(0), 2);
    Pathwright m = merging("i0,0;i1,1;?0;k2,1;.;a1;");
    eq("some left out", m.paths(0), 2);
    eq("by the other alone", m.path(0, 0b00_01) + " " + m.path(0, 0b01_00), "0 1");
    Pathwright many = with("k7,1;i0,0;w7;?7;" + "?7;.;".repeat(15) + ".;?0;o7;.;.;");
    many.limit(0, 's', 120);
    many.limit(0, 'b', 12);
    eq("hundreds of forks", many.forks(0, 0) > 200 ? many.paths(0) : 0, 2);
    eq("as many conditions as rounds", many.taken(0, 0, 'c'), 12);
    for (int j = 0; j < 12; j++) {
      eq("each with its side", many.condition(0, 0, j, 'h') + " " + many.condition(0, 1, j, 'h'),
          "0 1");
    }
  }

  private static void order() {
    says("Paths are those of rows that are let, numbered from 0 in the order of");
    Pathwright x = with("i0,0;k1,3;=2,0,1;?2;o0;.;k1,1;=2,0,1;?2;o0;.;");
    eq("0 and 2", x.path(0, 0) + " " + x.path(0, 2), "0 0");
    eq("1", x.path(0, 1), 1);
    eq("3", x.path(0, 3), 2);
    x.fix(0, 3);
    eq("the only one that is let", x.paths(0) + " " + x.path(0, 63), "1 0");
    eq("the least row of it", x.taken(0, 0, 'f'), 3);
    eq("not let", x.path(0, 0), -1);
    x.free(0);
    x.fix(3, 1);
    eq("the least rows", x.taken(0, 0, 'f') + " " + x.taken(0, 1, 'f') + " "
        + x.taken(0, 2, 'f'), "32 33 35");
    Pathwright y = with("i0,0;i3,3;?3;o0;:;?0;o0;.;.;");
    y.fix(0, 0);
    eq("numbered anew", y.path(0, 0) + " " + y.path(0, 32), "0 1");
    y.fix(0, 1);
    eq("numbered anew", y.path(0, 1) + " " + y.path(0, 33), "0 1");
    y.free(0);
    eq("numbered anew", y.path(0, 0) + " " + y.path(0, 1) + " " + y.path(0, 32), "0 1 2");
  }

  private static long put(String text) {
    return with(text).outputSign(0, 0, 0);
  }

  private static long putBy(char way, String text) {
    return way(way, text).outputSign(0, 0, 0);
  }

  private static void termsOfPaths() {
    says("A path is walked with terms: numbers are the terms of numbers");
    eq("a number", put("k0,-32768;o0;"), num(-32768));
    eq("0 at first", put("o7;"), num(0));
    eq("an input", put("i7,3;o7;"), in(3));
    for (char letter : "+-*&|^=<".toCharArray()) {
      eq("by " + letter, put("i0,0;i1,1;" + letter + "6,0,1;o6;"), let(letter, A, B));
    }
    for (char letter : "/%".toCharArray()) {
      Pathwright x = with("i0,0;i1,1;" + letter + "6,0,1;o6;");
      eq("by " + letter, x.outputSign(0, 1, 0), let(letter, A, B));
    }
    eq("made small", put("i0,0;-1,0,0;o1;"), num(0));
    eq("numbers alone", put("k0,7;k1,-2;*2,0,1;o2;"), num(-14));
    Pathwright x = with("i0,0;k1,1;+2,0,1;o2;");
    for (int value = 0; value < 4; value++) {
      x.fix(0, value);
      eq("fixed at " + value, x.outputSign(0, 0, 0), num(value + 1));
    }
    x.free(0);
    eq("free again", x.outputSign(0, 0, 0), let('+', A, num(1)));
    x.width(0, 0);
    eq("of no width", x.outputSign(0, 0, 0), let('+', A, num(1)));
    x.fix(0, 0);
    eq("of no width, fixed", x.outputSign(0, 0, 0), num(1));
    String to = "i0,0;k1,N;*2,0,1;k1,M;+2,2,1;o2;";
    long within = let('+', let('*', A, num(10000)), num(2767));
    eq("at the greatest of 16", put(to.replace("N", "10000").replace("M", "2767")), within);
    long beyond = let('+', let('*', A, num(10000)), num(2768));
    String over = to.replace("N", "10000").replace("M", "2768");
    eq("one more, by w", put(over), wrap(16, beyond));
    eq("one more, by s", putBy('s', over), cut(16, beyond));
    eq("one more, by t", putBy('t', over), wrap(16, beyond));
    long least = let('+', let('*', A, num(-10000)), num(-2768));
    eq("at the least of 16", put(to.replace("N", "-10000").replace("M", "-2768")), least);
    long below = let('+', let('*', A, num(-10000)), num(-2769));
    eq("one less, by s", putBy('s', to.replace("N", "-10000").replace("M", "-2769")),
        cut(16, below));
    String wide = "i0,0;k1,32767;*6,0,1;*6,6,1;o6;";
    long product = let('*', let('*', A, num(32767)), num(32767));
    eq("32 digits, by w", put(wide), wrap(32, product));
    eq("32 digits, by s", putBy('s', wide), cut(32, product));
    eq("32 digits, by t", putBy('t', wide), wrap(32, product));
    Pathwright field = way('s', "i0,0;k1,20000;*6,0,1;p0,0,6;f7,0,0;o7;s2,6;g7,2;o7;");
    long far = let('*', A, num(20000));
    eq("a field", field.outputSign(0, 0, 0), cut(16, far));
    eq("an element", field.outputSign(0, 0, 1), cut(16, far));
    Pathwright call = way('s', "d0;m6,0;v6;.;i0,0;k1,20000;*6,0,1;x7,0,6;o7;");
    eq("what is called with", call.outputSign(0, 0, 0), cut(16, far));
    Pathwright gives = with("d0;k1,20000;*6,0,1;v6;.;i0,0;x7,0,0;o7;x5,0,0;o5;");
    eq("what is given to 32", gives.outputSign(0, 0, 0), far);
    eq("what is given to 16", gives.outputSign(0, 0, 1), wrap(16, far));
    eq("a body that gives 0", put("d0;.;i0,0;x0,0,0;o0;"), num(0));
  }

  private static void elements() {
    says("An element whose number is a term that is no number is the choice of =");
    for (int length = 1; length <= 6; length++) {
      StringBuilder text = new StringBuilder();
      long[] held = new long[length];
      for (int k = 0; k < length; k++) {
        text.append("k6,").append(k).append(";k7,").append(k + 50).append(";s6,7;");
        held[k] = num(k + 50);
      }
      Pathwright x = with(text + "i0,0;i1,1;g2,0;o2;s1,0;k6,0;g3,6;o3;k6," + (length - 1)
          + ";g4,6;o4;");
      x.limit(0, 'r', length);
      int i = x.path(0, 0);
      long due = held[length - 1];
      for (int k = length - 2; k >= 0; k--) {
        // By 4 and 5 the = of an input of two digits is 0, and made small.
        due = k > 3 ? due : pick(let('=', A, num(k)), held[k], due);
      }
      eq("got of " + length, x.outputSign(0, i, 0), due);
      eq("the element 0 of " + length, x.outputSign(0, i, 1),
          pick(let('=', B, num(0)), A, held[0]));
      long last = length > 4 ? held[length - 1]
          : pick(let('=', B, num(length - 1)), A, held[length - 1]);
      eq("the last element of " + length, x.outputSign(0, i, 2), last);
    }
    Pathwright three = with("i0,0;k1,1;-0,0,1;k1,7;s0,1;k1,8;k2,2;s2,1;g3,0;o3;");
    three.limit(0, 'r', 3);
    int i = three.path(0, 1);
    long place = let('-', A, num(1));
    long e0 = pick(let('=', place, num(0)), num(7), num(0));
    long e1 = pick(let('=', place, num(1)), num(7), num(0));
    eq("the last is y of the last choice", three.outputSign(0, i, 0),
        pick(let('=', place, num(0)), e0, pick(let('=', place, num(1)), e1, num(8))));
    eq("a number, though", put("i0,0;k1,2;s1,0;g2,1;o2;"), A);
    eq("an input that is fixed is a number", fixedElement(), A);
  }

  private static long fixedElement() {
    Pathwright x = with("i0,0;i1,1;s1,0;g2,1;o2;");
    x.fix(1, 3);
    return x.outputSign(0, 0, 0);
  }

  private static void merged() {
    says("If the program merges, both sides of a plain block are walked, unless");
    for (int v = 1; v < 8; v++) {
      Pathwright x = merging("i0,0;kV,9;?0;kV,5;:;kV,6;.;oV;".replace("V", "" + v));
      eq("variable " + v, x.outputSign(0, 0, 0), pick(A, num(5), num(6)));
      Pathwright y = merging("i0,0;kV,9;?0;kV,5;.;oV;".replace("V", "" + v));
      eq("without :, " + v, y.outputSign(0, 0, 0), pick(A, num(5), num(9)));
      Pathwright z = merging("i0,0;kV,9;?0;:;kV,5;.;oV;".replace("V", "" + v));
      eq("behind : alone, " + v, z.outputSign(0, 0, 0), pick(A, num(9), num(5)));
    }
    Pathwright own = merging("i0,0;?0;k0,5;:;k0,6;.;o0;");
    eq("the variable of the block itself", own.outputSign(0, 0, 0), pick(A, num(5), num(6)));
    for (int f = 0; f < 6; f++) {
      String field = f / 3 + "," + f % 3;
      Pathwright x = merging("i0,0;k1,5;k2,6;?0;p" + field + ",1;:;p" + field + ",2;.;f3," + field
          + ";o3;");
      eq("field " + field, x.outputSign(0, 0, 0), pick(A, num(5), num(6)));
      Pathwright y = merging("i0,0;k1,5;p" + field + ",1;k2,6;?0;:;p" + field + ",2;.;f3," + field
          + ";o3;");
      eq("behind : alone, field " + field, y.outputSign(0, 0, 0), pick(A, num(5), num(6)));
    }
    Pathwright r = merging("i0,0;k1,5;p0,1,1;?0;r1,0;.;f3,1,1;o3;");
    eq("r in it", r.outputSign(0, 0, 0), pick(A, num(5), num(0)));
    eq("both sides alike", merging("i0,0;?0;k1,5;:;k1,5;.;o1;").outputSign(0, 0, 0), num(5));
    eq("nothing in it", merging("i0,0;i1,1;?0;.;o1;").outputSign(0, 0, 0), B);
    Pathwright low = merging("i0,0;k1,-9;-1,1,0;?1;k2,5;:;k2,6;.;o2;");
    eq("by a term that is never 0", low.outputSign(0, 0, 0), num(5));
    Pathwright nested = merging("i0,0;i1,1;?0;?1;k2,1;:;k2,2;.;:;?1;k2,3;:;k2,4;.;.;o2;");
    eq("one in another, on both sides", nested.outputSign(0, 0, 0),
        pick(A, pick(B, num(1), num(2)), pick(B, num(3), num(4))));
    Pathwright six = merging("i0,0;" + "?0;".repeat(6) + "k1,6;" + ".;".repeat(6) + "o1;");
    long due = num(6);
    for (int n = 0; n < 6; n++) {
      due = pick(A, due, num(0));
    }
    eq("six deep", six.outputSign(0, 0, 0), due);
    eq("no condition", six.taken(0, 0, 'c'), 0);
    Pathwright number = merging("k0,3;?0;k1,5;:;k1,6;.;o1;");
    eq("a number is no choice", number.outputSign(0, 0, 0), num(5));
    Pathwright fixed = merging("i0,0;?0;k1,5;:;k1,6;.;o1;");
    fixed.fix(0, 0);
    eq("nor is an input that is fixed", fixed.outputSign(0, 0, 0), num(6));
    eq("it is no condition either", fixed.taken(0, 0, 'c'), 0);
    Pathwright inside = merging("i0,0;k1,1;?0;?1;k2,5;:;k2,6;.;.;o2;");
    eq("a number inside", inside.outputSign(0, 0, 0), pick(A, num(5), num(0)));
    Pathwright set = merging("i0,0;i1,1;?0;m2,1;.;?2;k3,5;.;o3;");
    eq("a choice to choose by", set.outputSign(0, 0, 0),
        pick(pick(A, B, num(0)), num(5), num(0)));
    Pathwright not = merging("i0,0;?0;k1,5;o1;:;k1,6;.;o1;");
    eq("one that is not plain", not.paths(0) + " " + not.outputSign(0, 0, 0), "2 " + num(6));
    Pathwright byT = merging("i0,0;?0;k1,5;.;o1;");
    byT.way(0, 't');
    eq("none is plain by t", byT.paths(0) + " " + byT.outputSign(0, 1, 0), "2 " + num(5));
  }

  private static void mergedInLoopsAndCalls() {
    Pathwright loop = merging("i0,0;k1,2;k2,1;w1;-1,1,2;?0;+3,3,2;.;.;o3;");
    long once = pick(A, num(1), num(0));
    eq("in a loop", loop.outputSign(0, 0, 0), pick(A, let('+', once, num(1)), once));
    Pathwright call = merging("d0;k1,4;?0;k1,3;.;v1;.;i0,0;k1,9;x2,0,0;o2;o1;");
    eq("in a call", call.outputSign(0, 0, 0), pick(A, num(3), num(4)));
    eq("not that of the one who calls", call.outputSign(0, 0, 1), num(9));
    Pathwright deep = merging("d0;x1,1,0;v1;.;d1;x1,2,0;v1;.;d2;k1,4;?0;k1,3;:;k1,2;.;v1;.;"
        + "i0,0;x2,0,0;o2;");
    eq("three deep", deep.outputSign(0, 0, 0), pick(A, num(3), num(2)));
    Pathwright row = merging("i0,0;k1,1;s1,0;?0;k2,1;.;g3,1;o3;");
    eq("elements stay", row.outputSign(0, 0, 0), A);
  }

  private static String told(Pathwright x, int i, int j) {
    return x.condition(0, i, j, 's') + " " + (char) x.condition(0, i, j, 'k')
        + x.condition(0, i, j, 'h');
  }

  private static void conditions() {
    says("A fork, other than those that merging leaves out, is a condition of the");
    String[] kinds = {"?0;.;?", "w0;.;w", "a0;a"};
    for (String one : kinds) {
      Pathwright x = with("i0,0;" + one.substring(0, one.length() - 1));
      x.limit(0, 'b', 0);
      char kind = one.charAt(one.length() - 1);
      eq("side 0", told(x, 0, 0), "1 " + kind + "0");
      eq("side 1", told(x, 1, 0), "1 " + kind + "1");
      eq("its term", x.conditionSign(0, 0, 0), A);
      eq("on the other path", x.conditionSign(0, 1, 0), A);
      eq("no other", x.taken(0, 1, 'c'), 1);
      x.fix(0, 1);
      eq("a number is none", x.taken(0, 0, 'c'), 0);
      x.free(0);
      x.width(0, 0);
      eq("what is 0 alone is no number", x.taken(0, 0, 'c') + " " + told(x, 0, 0),
          "1 1 " + kind + "0");
    }
    for (char letter : new char[] {'/', '%'}) {
      Pathwright x = with("i0,0;i1,1;" + letter + "2,0,1;");
      eq("b of " + letter, told(x, 0, 0) + x.conditionSign(0, 0, 0), "2 z0" + B);
      eq("b of " + letter, told(x, 1, 0) + x.conditionSign(0, 1, 0), "2 z1" + B);
      eq("not a of it", with("i0,0;k1,5;" + letter + "2,0,1;").taken(0, 0, 'c'), 0);
    }
    Pathwright never = with("i0,0;k1,1;+0,0,1;?0;.;");
    eq("never 0, but no number", never.taken(0, 0, 'c') + " " + told(never, 0, 0), "1 3 ?1");
    Pathwright m = merging("i0,0;i1,1;?0;k2,5;.;a1;");
    eq("left out", m.taken(0, 0, 'c') + " " + told(m, 0, 0), "1 5 a0");
    eq("in their order", told(with("i0,0;i1,1;a1;a0;"), 2, 0)
        + told(with("i0,0;i1,1;a1;a0;"), 2, 1), "2 a13 a1");
    for (String one : new String[] {"g1,0;", "s0,1;"}) {
      for (int length = 1; length <= 6; length++) {
        Pathwright x = with("i0,0;k1,1;-0,0,1;" + one);
        x.limit(0, 'r', length);
        long place = let('-', A, num(1));
        long above = let('<', num(-1), place);
        long below = length > 2 ? num(1) : let('<', place, num(length));
        int i = x.path(0, 1);
        eq("b by " + length, x.conditionSign(0, i, 0), let('&', above, below));
        eq("told", told(x, i, 0), "3 b1");
        eq("told", told(x, x.path(0, 0), 0), "3 b0");
      }
      Pathwright two = with("i0,0;" + one);
      two.limit(0, 'r', 3);
      eq("never below 0", two.conditionSign(0, 0, 0), let('&', num(1), let('<', A, num(3))));
      two.limit(0, 'r', 4);
      eq("always there", two.taken(0, 0, 'c'), 0);
    }
  }

  private static void conditionsOfNumbers() {
    String to = "i0,0;k1,N;*V,0,1;";
    long far = let('*', A, num(20000));
    Pathwright x = way('t', to.replace("N", "20000").replace("V", "2"));
    eq("o above", told(x, 0, 0) + x.conditionSign(0, 0, 0),
        "2 o1" + let('&', num(1), let('<', far, num(32768))));
    eq("o above, the other side", told(x, 1, 0), "2 o0");
    long low = let('*', A, num(-20000));
    Pathwright y = way('t', to.replace("N", "-20000").replace("V", "2"));
    eq("o below", y.conditionSign(0, 0, 0), let('&', let('<', num(-32769), low), num(1)));
    eq("o within 32", way('t', to.replace("N", "20000").replace("V", "6")).taken(0, 0, 'c'), 0);
    Pathwright edge = way('t', "i0,0;k1,10000;*2,0,1;k3,2767;+4,2,3;");
    eq("the greatest is within", edge.taken(0, 0, 'c'), 0);
    edge.set(0, 3, 1, 2768);
    eq("one more is not", edge.taken(0, 0, 'c'), 1);
    Pathwright under = way('t', "i0,0;k1,-10000;*2,0,1;k3,-2768;+4,2,3;");
    eq("the least is within", under.taken(0, 0, 'c'), 0);
    under.set(0, 3, 1, -2769);
    eq("one less is not", under.taken(0, 0, 'c'), 1);
    Pathwright both = way('t', "i0,0;i1,1;-2,0,1;k3,30000;*2,2,3;");
    long term = let('*', let('-', A, B), num(30000));
    eq("both ends", both.conditionSign(0, 0, 0),
        let('&', let('<', num(-32769), term), let('<', term, num(32768))));
    Pathwright z = way('t', "i0,0;k1,32767;*6,0,1;*6,6,1;");
    long wide = let('*', let('*', A, num(32767)), num(32767));
    eq("of 32 digits", z.conditionSign(0, 0, 0),
        let('&', num(1), let('<', wide, num(2147483648L))));
    Pathwright w = way('t', "i0,0;k1,-32768;k2,32767;*6,0,1;*6,6,2;");
    long deep = let('*', let('*', A, num(-32768)), num(32767));
    eq("of 32 digits, below", w.conditionSign(0, 0, 0),
        let('&', let('<', num(-2147483649L), deep), num(1)));
    for (String one : new String[] {"m2,6;", "p0,0,6;", "s3,6;", "x7,0,6;"}) {
      Pathwright held = way('t', "d0;.;i0,0;k1,20000;*6,0,1;" + one);
      eq("o of " + one, told(held, 0, 0) + held.conditionSign(0, 0, 0),
          "5 o1" + let('&', num(1), let('<', far, num(32768))));
    }
    Pathwright gives = way('t', "d0;k1,20000;*6,0,1;v6;.;i0,0;x5,0,0;");
    eq("o of what is given", told(gives, 0, 0) + gives.conditionSign(0, 0, 0),
        "6 o1" + let('&', num(1), let('<', far, num(32768))));
    gives.set(0, 6, 0, 6);
    eq("given to 32 digits", gives.taken(0, 0, 'c'), 0);
  }

  private static void rowsNotLet() {
    says("For a row that is not let, too, a condition holds if its term is not");
    Pathwright x = with("i0,0;i1,1;-2,0,1;a2;");
    x.fix(1, 1);
    eq("paths", x.paths(0), 2);
    long term = let('-', A, num(1));
    eq("side 1", x.conditionSign(0, 0, 0), term);
    int held = 0;
    int others = 0;
    for (int row = 0; row < 64; row++) {
      held += x.holds(0, 0, 0, row) == (x.part(row, 0) != 1) ? 1 : 0;
      others += x.holds(0, 1, 0, row) == (x.part(row, 0) == 1) ? 1 : 0;
    }
    eq("with the side 1, for each row", held, 64);
    eq("with the side 0, for each row", others, 64);
    yes("below 0 is not 0", x.holds(0, 0, 0, 0));
    raises("no row", INDEX, x, () -> x.holds(0, 0, 0, 64));
    says("The terms of the outputs are those of the first 12.");
    for (int n = 11; n <= 14; n++) {
      Pathwright y = with("i0,0;k1,1;" + "o0;+0,0,1;".repeat(n));
      eq(n + " are put out", y.taken(0, 0, 'o'), Math.min(n, 12));
      long due = A;
      for (int j = 0; j < Math.min(n, 12); j++) {
        eq("output " + j, y.outputSign(0, 0, j), due);
        due = let('+', due, num(1));
      }
      int none = Math.min(n, 12);
      raises("no more", ELEMENT, y, () -> y.outputSign(0, 0, none));
    }
  }

  private static void outputsOfPaths() {
    says(52, "Returns the value of the term of an output for a row, whether it takes");
    Pathwright x = with("i0,0;?0;o0;:;k1,1;+0,0,1;o0;.;");
    eq("for a row of it", x.outputValue(0, 1, 0, 3), 3);
    eq("for a row of the other", x.outputValue(0, 1, 0, 0), 0);
    eq("the other way round", x.outputValue(0, 0, 0, 63), 4);
    x.fix(0, 0);
    eq("for a row that is not let, a number that was fixed", x.outputValue(0, 0, 0, 63), 1);
    Pathwright y = with("i0,0;i1,1;o0;");
    y.fix(1, 2);
    eq("for a row that is not let", y.outputValue(0, 0, 0, 3), 3);
    Pathwright z = way('t', "i0,0;k1,20000;*2,0,1;o2;");
    eq("by t of a row that is not within", z.outputValue(0, 0, 0, 2), 40000 - 65536);
    says(51, "Returns the sign of the term of an output.");
    eq("the first", x.outputSign(0, 0, 0), num(1));
    raises("-1", ELEMENT, x, () -> x.outputSign(0, 0, -1));
    raises("behind the last", ELEMENT, x, () -> x.outputSign(0, 0, 1));
    raises("of no path", ELEMENT, x, () -> x.outputSign(0, 1, 0));
  }

  private static void pathsTold() {
    says(43, "Lets a program merge, or not.");
    Pathwright x = with("i0,0;?0;k1,1;.;");
    x.merge(0, true);
    eq("it merges", x.paths(0), 1);
    x.merge(0, false);
    eq("it does not", x.paths(0), 2);
    says(43, "Returns whether it did.");
    no("at first", x.merge(1, true));
    yes("then", x.merge(1, true));
    yes("still", x.merge(1, false));
    no("no more", x.merge(1, false));
    no("each its own", x.merge(0, false));
    says(44, "Returns how many paths a program has.");
    Pathwright y = with("i0,0;i1,1;i2,2;i3,3;?2;.;?3;.;k4,1;w0;-0,0,4;.;w1;-1,1,4;.;");
    eq("64", y.paths(0), 64);
    for (int k = 0; k < 4; k++) {
      y.fix(k, 0);
    }
    eq("one row is let", y.paths(0), 1);
    for (int k = 0; k < 4; k++) {
      y.width(k, 0);
    }
    eq("one row is there", y.paths(0), 1);
    says(45, "Returns the number of the path, -1 if the row is not let.");
    Pathwright z = with("i0,0;a0;");
    z.fix(3, 1);
    eq("not let", z.path(0, 31), -1);
    eq("the first that is let", z.path(0, 32), 0);
    eq("the last", z.path(0, 63), 1);
  }

  private static void pathsTaken() {
    says(46, "Tells of a path.");
    Pathwright x = with("i0,0;?0;o0;o0;a7;.;");
    eq("f", x.taken(0, 0, 'f') + " " + x.taken(0, 1, 'f'), "0 1");
    eq("n", x.taken(0, 0, 'n') + " " + x.taken(0, 1, 'n'), "16 48");
    eq("w, behind all and at a statement", x.taken(0, 0, 'w') + " " + x.taken(0, 1, 'w'), "6 4");
    eq("c", x.taken(0, 0, 'c') + " " + x.taken(1, 0, 'c'), "1 0");
    eq("o", x.taken(0, 0, 'o') + " " + x.taken(0, 1, 'o'), "0 2");
    for (char what = 0; what < 300; what++) {
      char w = what;
      Pathwright y = with("i0,0;a0;");
      if ("fnwco".indexOf(w) < 0) {
        raises("what " + (int) w, ARGUMENT, y, () -> y.taken(0, 0, w));
      }
    }
    raises("-1", ELEMENT, x, () -> x.taken(0, -1, 'f'));
    raises("behind the last", ELEMENT, x, () -> x.taken(0, 2, 'f'));
    x.fix(0, 0);
    raises("one that is no more", ELEMENT, x, () -> x.taken(0, 1, 'f'));
    eq("n of those let", x.taken(0, 0, 'n'), 16);
    says(47, "Returns the letter of the end.");
    String[] all = {"?0;o0;.;ee", "a0;ae", "k1,5;/2,1,0;ze", "w0;.;el", "v0;e", "k1,2;g2,0;eb"};
    for (String one : all) {
      int end = one.lastIndexOf(';') + 1;
      Pathwright y = with("i0,0;" + one.substring(0, end));
      y.limit(0, 'r', 1);
      for (int i = 0; i < one.length() - end; i++) {
        eq(one, y.ending(0, i), one.charAt(end + i));
      }
    }
    Pathwright d = with("d0;?0;x0,0,0;.;.;i0,0;x0,0,0;");
    eq("d", d.ending(0, 0) + " " + d.ending(0, 1), "e d");
    Pathwright s = with("i0,0;k1,1;w0;-0,0,1;k2,1;k2,1;.;");
    s.limit(0, 's', 10);
    eq("s", s.ending(0, s.path(0, 1)) + " " + s.ending(0, s.path(0, 2)), "e s");
  }

  private static void conditionsTold() {
    says(48, "Tells of a condition.");
    Pathwright x = with("i0,0;i1,1;+2,0,1;a2;a0;");
    eq("s", x.condition(0, 2, 0, 's') + " " + x.condition(0, 2, 1, 's'), "3 4");
    eq("k", x.condition(0, 2, 0, 'k'), 'a');
    eq("h", x.condition(0, 1, 1, 'h') + " " + x.condition(0, 2, 1, 'h'), "1 0");
    eq("z", x.condition(0, 2, 0, 'z') + " " + x.condition(0, 2, 1, 'z'), "3 1");
    eq("z of a choice", merging("i0,0;?0;k1,5;.;a1;").condition(0, 0, 0, 'z'), 4);
    for (char what = 0; what < 300; what++) {
      char w = what;
      Pathwright y = with("i0,0;a0;");
      if ("skhz".indexOf(w) < 0) {
        raises("what " + (int) w, ARGUMENT, y, () -> y.condition(0, 0, 0, w));
      }
    }
    raises("the condition -1", ELEMENT, x, () -> x.condition(0, 2, -1, 's'));
    raises("behind the last condition", ELEMENT, x, () -> x.condition(0, 2, 2, 's'));
    raises("the path -1", ELEMENT, x, () -> x.condition(0, -1, 0, 's'));
    raises("behind the last path", ELEMENT, x, () -> x.condition(0, 3, 0, 's'));
    raises("a path of none", ELEMENT, x, () -> x.condition(1, 0, 0, 's'));
    says(49, "Returns the sign of the term of a condition.");
    eq("the last", x.conditionSign(0, 2, 1), A);
    raises("behind it", ELEMENT, x, () -> x.conditionSign(0, 2, 2));
    raises("ahead of the first", ELEMENT, x, () -> x.conditionSign(0, 2, -1));
    says(50, "Returns whether its term is not 0 for the row, if it has the side 1");
    Pathwright y = with("i0,0;k1,1;-0,0,1;a0;");
    yes("-1, side 1", y.holds(0, 0, 0, 0));
    no("0, side 1", y.holds(0, 0, 0, 1));
    yes("1, side 1", y.holds(0, 0, 0, 2));
    no("-1, side 0", y.holds(0, 1, 0, 0));
    yes("0, side 0", y.holds(0, 1, 0, 1));
    no("1, side 0", y.holds(0, 1, 0, 2));
  }
}
