/** The edges of Part 4 and of the promises 36 to 42: walks. */
final class WalkEdges extends Edges {
  static void all() {
    isHeading("Part 4, walks.");
    beginningAndEnd();
    steps();
    stepsOut();
    rounds();
    outputsKept();
    plain();
    plainSteps();
    forks();
    forksOfNumbers();
    orderOfForks();
    goals();
    goalsDone();
    endsTold();
    countsTold();
    outputsTold();
  }

  private static void beginningAndEnd() {
    says("The walk of a row begins at the statement 0, and ends with e behind");
    eq("of nothing", ends(fresh(), 0), "e 0");
    eq("of one", ends(with("o0;"), 63), "e 1");
    eq("of 40", ends(with("o0;".repeat(40)), 0), "e 40");
    eq("a body at first", ends(with("d0;o0;.;"), 0), "e 3");
    eq("the first is done", covers(with("o0;a0;"), 0), "10");
    eq("begins at the first again", outs(with("o0;k0,1;"), 1), "0");
  }

  private static void steps(String text, int due) {
    eq(text, with(text).steps(0, 0), due);
  }

  private static void steps() {
    says("A statement that is come to is a step, but :, . and d.");
    steps("", 0);
    for (String one : EVERY.split(";")) {
      char letter = one.charAt(0);
      if ("dx:.".indexOf(letter) < 0) {
        steps(one + ";" + (letter == '?' || letter == 'w' ? ".;" : ""), 1);
      }
    }
    steps("d0;.;", 0);
    steps("d0;o0;o0;.;o0;", 1);
    steps("d0;.;x0,0,0;", 1);
    steps("d0;o0;.;x0,0,0;", 2);
    steps("d0;v0;.;x0,0,0;", 2);
    steps("d0;x0,0,0;.;x0,0,0;", 4);
    steps("?0;o0;:;o0;.;", 2);
    steps("k0,1;?0;o0;:;o0;.;", 3);
    steps("k0,2;k1,1;w0;-0,0,1;.;o0;", 2 + 2 * 2 + 1 + 1);
    steps("k0,1;w0;.;", 1 + 6 + 1);
  }

  /** Two loops, each of twelve rounds: 340 steps, if there is no end to them. */
  private static final String LOOPS = "k1,1;k0,12;w0;-0,0,1;k2,12;w2;-2,2,1;.;.;";

  private static int[] orderOfLoops() {
    int[] order = new int[400];
    int n = 0;
    order[n++] = 0;
    order[n++] = 1;
    for (int round = 0; round < 12; round++) {
      order[n++] = 2;
      order[n++] = 3;
      order[n++] = 4;
      for (int inner = 0; inner < 12; inner++) {
        order[n++] = 5;
        order[n++] = 6;
      }
      order[n++] = 5;
    }
    return order;
  }

  private static void stepsOut() {
    says("If as many steps were done as the program lets, and a statement comes");
    int[] order = orderOfLoops();
    for (int limit = 10; limit <= 120; limit++) {
      Pathwright x = with(LOOPS);
      x.limit(0, 'b', 12);
      x.limit(0, 's', limit);
      eq("by " + limit, ends(x, 5), "s " + order[limit]);
      eq("steps by " + limit, x.steps(0, 5), limit);
    }
    for (int more = 0; more < 3; more++) {
      Pathwright x = with("o0;".repeat(9 + more));
      x.limit(0, 's', 10);
      eq(9 + more + " of 10", ends(x, 0), more < 2 ? "e " + (9 + more) : "s 10");
      eq("steps", x.steps(0, 0), Math.min(10, 9 + more));
    }
    Pathwright x = with("k0,1;".repeat(9) + "?0;o0;:;.;d0;.;o0;");
    x.limit(0, 's', 10);
    eq("in a block", ends(x, 0), "s 10");
    x.limit(0, 's', 11);
    eq("over :, . and d", ends(x, 0), "s 15");
    x.limit(0, 's', 12);
    eq("all", ends(x, 0), "e 16");
    Pathwright none = with("o0;".repeat(10) + "?0;.;");
    none.limit(0, 's', 10);
    eq("a block is a step", ends(none, 0), "s 10");
    eq("none of its forks", none.forks(0, 0), 0);
    for (String last : "a0; /1,1,0; g1,2; v0; w3;.; x0,0,0;d0;x0,0,0;.;".split(" ")) {
      Pathwright y = with("k2,9;k3,1;" + "k1,1;".repeat(8) + last);
      y.limit(0, 's', 10);
      eq("ahead of all else of " + last, ends(y, 0), "s 10");
    }
    Pathwright deep = with("d0;x0,0,0;.;" + "k1,1;".repeat(7) + "x0,0,0;");
    deep.limit(0, 's', 10);
    eq("s ahead of d", ends(deep, 0), "s 1");
    deep.limit(0, 's', 11);
    eq("d with the last step", ends(deep, 0), "d 1");
    Pathwright given = with("d0;o0;.;" + "k1,1;".repeat(8) + "x2,0,0;");
    given.limit(0, 's', 10);
    eq("a body that gives with the last step", ends(given, 0), "e 12");
  }

  private static void rounds() {
    says("If a w has gone its bound of rounds, since it was come to from ahead");
    for (int bound = 0; bound <= 12; bound++) {
      Pathwright x = with("k0,1;w0;.;");
      x.limit(0, 'b', bound);
      eq("for ever, by " + bound, ends(x, 0), "l 1");
      eq("steps", x.steps(0, 0), bound + 2);
      eq("forks", x.forks(0, 0), bound + 1);
      eq("all of the side 1", covers(x, 0), "11-");
      for (int n = Math.max(0, bound - 1); n <= bound + 1; n++) {
        Pathwright y = with("k1,1;k0," + n + ";w0;-0,0,1;o0;.;");
        y.limit(0, 'b', bound);
        eq(n + " rounds by " + bound, ends(y, 0), n <= bound ? "e 6" : "l 2");
        eq("so often", y.outputs(0, 0), Math.min(n, Math.min(bound, 12)));
        eq("forks", y.forks(0, 0), n <= bound ? n + 1 : bound + 1);
      }
    }
    Pathwright again = with("k1,1;k0,3;w0;-0,0,1;k2,3;w2;-2,2,1;.;.;o0;");
    again.limit(0, 'b', 3);
    eq("come to from ahead three times", ends(again, 0), "e 10");
    again.limit(0, 'b', 2);
    eq("the inner one ends it", ends(again, 0), "l 5");
    Pathwright two = with("k1,1;k0,2;w0;-0,0,1;.;k0,2;w0;-0,0,1;.;");
    two.limit(0, 'b', 2);
    eq("each w by itself", ends(two, 0), "e 9");
    Pathwright left = with("d0;k1,1;w1;k2,1;w2;v1;.;.;.;" + "x3,0,0;".repeat(9));
    left.limit(0, 'b', 1);
    eq("a call that ends in it, again and again", ends(left, 0), "e 18");
    Pathwright each = with("i0,0;k1,1;w1;k2,1;w2;-2,2,1;.;?0;:;a0;.;.;");
    eq("a walk that ends in it", ends(each, 0), "a 9");
    eq("the next walk", ends(each, 1) + " " + each.forks(0, 1), "l 2 25");
    eq("a walk that ends by it", ends(each, 2) + " " + each.forks(0, 2), "l 2 25");
    Pathwright inner = with("d0;k1,1;k2,2;w2;-2,2,1;?0;x4,0,5;.;.;v1;.;k0,1;x3,0,0;o3;");
    inner.limit(0, 'b', 2);
    eq("rounds of a call inside of it are not its own", ends(inner, 0), "e 14");
    inner.limit(0, 'b', 1);
    eq("the inner one is the first to end it", ends(inner, 0), "l 3");
    eq("behind its fork", inner.forks(0, 0), 2 + 3);
  }

  private static void outputsKept() {
    says("Of outputs the first 12 are kept.");
    for (int n = 0; n <= 15; n++) {
      StringBuilder text = new StringBuilder();
      for (int i = 0; i < n; i++) {
        text.append("k0,").append(i + 5).append(";o0;");
      }
      Pathwright x = with(text.toString());
      eq(n + " are put out", x.outputs(0, 0), Math.min(n, 12));
      for (int i = 0; i < Math.min(n, 12); i++) {
        eq("output " + i, x.output(0, 0, i), i + 5);
      }
      int none = Math.min(n, 12);
      raises("output " + none, ELEMENT, x, () -> x.output(0, 0, none));
      eq("it walks on", ends(x, 0), "e " + 2 * n);
      eq("all of them are done", covers(x, 0), "11".repeat(n));
    }
  }

  /** A block is plain if what is in it is no step: it has one step, and forks of its own. */
  private static boolean isPlain(char way, String inside) {
    Pathwright x = way(way, "k0,1;k1,1;?0;" + inside + ".;");
    return x.steps(0, 0) == 3;
  }

  private static void plain() {
    says("A block of ? is plain if the way is not t and all statements in it are");
    String plain = "kim+-*&|^=<fpr";
    for (String one : EVERY.split(";")) {
      char letter = one.charAt(0);
      if ("?wdx:.v".indexOf(letter) >= 0) {
        continue;
      }
      String inside = letter == '/' || letter == '%' ? letter + "3,1,1;" : one + ";";
      boolean isDue = plain.indexOf(letter) >= 0;
      eq(letter + " by w", isPlain('w', inside) ? 1 : 0, isDue ? 1 : 0);
      eq(letter + " by s", isPlain('s', inside) ? 1 : 0, isDue ? 1 : 0);
      no(letter + " by t", isPlain('t', inside));
      Pathwright x = with("i0,0;?0;k2,1;" + inside + ".;");
      x.merge(0, true);
      eq("merging with " + letter, x.paths(0), isDue ? 1 : 2);
    }
    yes("a block in it", isPlain('w', "?1;k2,1;:;k2,2;.;"));
    yes("a block in it that is empty", isPlain('w', "?1;.;"));
    yes("four blocks in it", isPlain('w', "?1;".repeat(5) + ".;".repeat(5)));
    no("a block in it with o", isPlain('w', "?1;o0;.;"));
    no("a block in it with o on the other side", isPlain('w', "k2,1;?1;k2,1;:;o0;.;"));
    no("o on its other side", isPlain('w', "k2,1;:;o0;"));
    no("w", isPlain('w', "k1,0;w1;.;"));
    no("v", isPlain('w', "v0;"));
    Pathwright call = merging("d0;.;i0,0;?0;x1,0,0;.;");
    eq("x", call.paths(0), 2);
    for (char way : new char[] {'w', 's', 't'}) {
      Pathwright empty = way(way, "i0,0;?0;.;");
      empty.merge(0, true);
      eq("an empty block by " + way, empty.paths(0), way == 't' ? 2 : 1);
    }
    Pathwright x = merging("i0,0;?0;k1,1;.;o1;");
    eq("what is behind its . does not count", x.paths(0), 1);
    Pathwright around = merging("i0,0;?0;?0;k1,1;.;o1;.;");
    eq("one in it is plain, it is not", around.paths(0), 2);
  }

  private static void plainSteps() {
    says("A plain block is one step, that of its ?, and what is in it is none.");
    steps("?0;k1,1;.;", 1);
    steps("k0,1;?0;.;", 2);
    steps("k0,1;?0;" + "k1,1;".repeat(37) + ".;", 2);
    steps("k0,1;?0;" + "?0;k1,1;.;".repeat(5) + ":;k1,1;.;", 2);
    steps("?0;:;?0;:;" + "k1,1;".repeat(9) + ".;.;o0;", 2);
    steps("k0,1;?0;k1,1;.;?0;k1,1;.;", 3);
    steps("k0,1;?0;?0;k1,1;.;o1;.;", 1 + 1 + 1 + 1);
    steps("k0,1;?0;?0;k1,1;.;k1,1;o1;.;", 1 + 1 + 1 + 1 + 1);
    Pathwright x = with("k0,1;".repeat(9) + "?0;" + "k1,1;".repeat(20) + ".;");
    x.limit(0, 's', 10);
    eq("all of it with the last step", ends(x, 0), "e 31");
    eq("and done", covers(x, 0), "1".repeat(30) + "-");
    x.way(0, 't');
    eq("by t it is not plain", ends(x, 0), "s 10");
  }

  private static void forks(String text, int row, int due) {
    eq(text, with(text).forks(0, row), due);
  }

  private static void forks() {
    says("A fork is a place at which a walk could go on in two ways");
    forks("", 0, 0);
    forks("k0,1;i1,0;m1,0;+1,0,0;-1,0,0;*1,0,0;&1,0,0;|1,0,0;^1,0,0;=1,0,0;<1,0,0;", 0, 0);
    forks("f0,0,0;p0,0,0;r0,1;o0;v0;", 0, 0);
    forks("d0;v0;.;x0,0,0;", 0, 0);
    String[] all = {"?0;.;?", "w0;.;w", "k1,5;/2,1,0;z", "k1,5;%2,1,0;z", "a0;a"};
    for (String one : all) {
      String text = "i0,0;" + one.substring(0, one.length() - 1);
      Pathwright x = with(text);
      x.limit(0, 'b', 0);
      eq("by the side 0 " + text, x.forks(0, 0), 1);
      eq("by the side 1 " + text, x.forks(0, 1), 1);
      eq("kind of " + text, x.condition(0, 0, 0, 'k'), one.charAt(one.length() - 1));
      eq("side 0 of " + text, x.condition(0, 0, 0, 'h'), 0);
      eq("side 1 of " + text, x.condition(0, 1, 0, 'h'), 1);
      eq("rows by the side 0 " + text, x.taken(0, 0, 'n'), 16);
    }
    for (String one : new String[] {"g1,0;", "s0,1;"}) {
      Pathwright x = with("i0,0;k1,1;-0,0,1;" + one);
      x.limit(0, 'r', 2);
      eq("below the first " + one, x.taken(0, 0, 'f') + " " + x.taken(0, 0, 'n'), "0 32");
      eq("the first and the last " + one, x.taken(0, 1, 'f') + " " + x.taken(0, 1, 'n'), "1 32");
      eq("side 0", x.condition(0, 0, 0, 'h'), 0);
      eq("side 1", x.condition(0, 1, 0, 'h'), 1);
      eq("kind of " + one, x.condition(0, 0, 0, 'k'), 'b');
      eq("behind the last, too", x.path(0, 3), 0);
      eq("the last", x.path(0, 2), 1);
      eq("forks", x.forks(0, 3), 1);
    }
    forks("k0,1;?0;?0;?1;.;.;:;?0;.;.;", 0, 3);
    forks("k0,2;k1,1;w0;-0,0,1;.;", 0, 3);
  }

  private static int forksBy(char way, String text) {
    return way(way, text).forks(0, 0);
  }

  /** Kind o, by the way t alone. */
  private static void forksOfNumbers() {
    for (String one : EVERY.split(";")) {
      char letter = one.charAt(0);
      if ("?wdx:.v".indexOf(letter) >= 0) {
        continue;
      }
      boolean isDivided = letter == '/' || letter == '%';
      String text = isDivided ? letter + "3,1,1;" : one + ";";
      int others = isDivided || letter == 'g' || letter == 's' || letter == 'a' ? 1 : 0;
      int due = "m+-*/%&|^sp".indexOf(letter) >= 0 ? 1 : 0;
      eq(text + " by w", forksBy('w', "k1,1;" + text), others);
      eq(text + " by s", forksBy('s', "k1,1;" + text), others);
      eq(text + " by t", forksBy('t', "k1,1;" + text), others + due);
    }
    eq("x twice", forksBy('t', "d0;v0;.;x0,0,0;"), 2);
    eq("x twice, with a . at its end", forksBy('t', "d0;.;x0,0,0;"), 2);
    eq("x that does not come to its end", forksBy('t', "d0;a1;.;x0,0,0;"), 2);
    eq("x four deep", forksBy('t', "d0;x0,0,0;.;x0,0,0;"), 3);
    eq("v outside of all calls", forksBy('t', "k0,9;v0;"), 0);
    String wide = "k1,32767;k2,1;+6,1,2;";
    Pathwright with = way('t', "d0;.;" + wide + "x3,0,6;");
    eq("by what it is called with", ends(with, 0) + " " + with.forks(0, 0), "o 5 2");
    Pathwright gives = way('t', "d0;" + wide + "v6;.;x3,0,0;");
    eq("by what it gives", ends(gives, 0) + " " + gives.forks(0, 0), "o 6 3");
    Pathwright deep = way('t', "d0;x3,1,0;.;d1;" + wide + "v6;.;x3,0,0;");
    eq("by what it gives, inside", ends(deep, 0) + " " + deep.forks(0, 0), "o 1 4");
    Pathwright x = way('t', "i0,0;k1,32765;+2,0,1;");
    eq("the greatest is within", x.taken(0, 0, 'n'), 48);
    eq("one more is not", x.taken(0, 1, 'f') + " " + x.ending(0, 1), "3 o");
    eq("its kind", x.condition(0, 1, 0, 'k'), 'o');
    eq("its side", x.condition(0, 1, 0, 'h'), 0);
    Pathwright y = way('t', "i0,0;k1,-32766;-2,1,0;");
    eq("the least is within", y.taken(0, 0, 'n'), 48);
    eq("one less is not", y.taken(0, 1, 'f') + " " + y.ending(0, 1), "3 o");
  }

  private static void orderOfForks() {
    says("The forks of a statement come in the order in which this is told");
    eq("z ahead of o", ends(way('t', "k0,-32768;k1,-1;/2,0,3;"), 0), "z 2");
    eq("then o", ends(way('t', "k0,-32768;k1,-1;/2,0,1;"), 0), "o 2");
    String wide = "k0,32767;k1,1;+6,0,1;k0,9;";
    eq("b ahead of o", ends(way('t', wide + "s0,6;"), 0), "b 4");
    eq("then o", ends(way('t', wide + "s1,6;"), 0), "o 4");
    Pathwright x = way('t', "i0,0;i1,1;k2,30000;*6,1,2;*6,6,1;/3,6,0;");
    int i = x.path(0, 0b11_01);
    int last = x.taken(0, i, 'c') - 1;
    eq("the last is o", x.condition(0, i, last, 'k'), 'o');
    eq("ahead of it is z", x.condition(0, i, last - 1, 'k'), 'z');
    eq("both of the /", x.condition(0, i, last - 1, 's') + x.condition(0, i, last, 's'), 10);
    Pathwright y = way('t', "i0,0;i1,1;k2,30000;*6,1,2;k3,1;-0,0,3;s0,6;");
    i = y.path(0, 0b10_01);
    last = y.taken(0, i, 'c') - 1;
    eq("the last is o", y.condition(0, i, last, 'k'), 'o');
    eq("ahead of it is b", y.condition(0, i, last - 1, 'k'), 'b');
    Pathwright z = way('t', "d0;k1,20000;*6,0,1;v6;.;i0,0;k1,11000;*6,0,1;x2,0,6;");
    i = z.path(0, 2);
    eq("what it is called with", z.condition(0, i, 0, 's') + " " + z.condition(0, i, 0, 'h'),
        "8 1");
    eq("then what it gives", z.condition(0, i, 1, 's') + " " + z.condition(0, i, 1, 'h'), "8 0");
  }

  private static void goals() {
    says("A goal is a statement with a side.");
    Pathwright x = with("i0,0;?0;o0;.;");
    raises("the side -1", INDEX, x, () -> x.goes(0, 0, 1, -1));
    raises("the side 2", INDEX, x, () -> x.goes(0, 0, 1, 2));
    raises("no statement", INDEX, x, () -> x.goes(0, 0, 4, 0));
    eq("a goal for each side", x.goals(0), 1 + 2 + 1);
    says("A walk covers a statement with the side 1 if it does it, as a step or");
    eq("no forks", covers(with("k0,1;i0,0;m0,1;r0,1;f0,0,0;p0,0,0;o0;v0;o0;"), 0), "11111111-");
    eq("? by 1", covers(x, 1), "111-");
    eq("? by 0", covers(x, 0), "10--");
    eq("a plain block by 1", covers(with("k0,1;?0;k1,1;?1;k2,1;:;k2,2;.;:;k1,2;.;"), 0),
        "11111------");
    eq("a plain block by 0", covers(with("?0;k1,1;:;k1,2;?0;k2,1;.;.;"), 0), "0--10---");
    eq("w by both", covers(with("k0,1;w0;k0,0;.;"), 0), "121-");
    eq("w by 0 alone", covers(with("w0;k0,0;.;"), 0), "0--");
    eq("/ and % by 1", covers(with("k0,1;/1,0,0;%1,0,0;"), 0), "111");
    eq("/ by 0", covers(with("/1,0,0;o0;"), 0), "0-");
    eq("g and s by 1", covers(with("g1,0;s0,1;"), 0), "11");
    eq("g by 0", covers(with("k0,4;g1,0;o0;"), 0), "10-");
    eq("s by 0", covers(with("k0,-1;s0,1;o0;"), 0), "10-");
    eq("a by 0", covers(with("a0;o0;"), 0), "0-");
    eq("one fork 1, the other 0", covers(way('t', "k0,-32768;k1,-1;/2,0,1;"), 0), "110");
    eq("b 1, o 0", covers(way('t', "k0,32767;+6,0,0;s1,6;"), 0), "110");
    eq("/ at first by 1, then by 0", covers(with("d0;k1,6;/2,1,0;v2;.;k0,3;x1,0,0;x1,0,7;"), 0),
        "-121-111");
    eq("beyond the 12 outputs", covers(with("o0;".repeat(14)), 0), "1".repeat(14));
  }

  private static void goalsDone() {
    says("An x is done with the side 1 as soon as the body begins; a w at which");
    eq("a body that does not end", covers(with("d0;a0;.;x0,0,0;"), 0), "-0-1");
    Pathwright s = with("d0;o0;.;" + "k1,1;".repeat(9) + "x0,0,0;");
    s.limit(0, 's', 10);
    eq("no step is left for its first statement", covers(s, 0), "---1111111111");
    String wide = "k1,32767;k2,1;+6,1,2;";
    eq("the body does not begin", covers(way('t', "d0;.;" + wide + "x3,0,6;"), 0), "--1110");
    eq("what it gives is not within", covers(way('t', "d0;" + wide + "v6;.;x3,0,0;"), 0),
        "-1111-2");
    eq("both are within", covers(way('t', "d0;v0;.;x3,0,0;"), 0), "-1-1");
    eq("l", covers(with("k0,1;w0;.;o0;"), 0), "11--");
    Pathwright l = with("k0,1;w0;.;");
    l.limit(0, 'b', 0);
    eq("l by the bound 0", covers(l, 0), "11-");
    says("(:, . and d, and a statement at which a walk ends with s or d");
    eq("none of these", covers(with("d0;.;?0;:;.;w0;.;"), 0), "--0--0-");
    Pathwright x = with("k0,1;".repeat(10) + "o0;");
    x.limit(0, 's', 10);
    eq("s", covers(x, 0), "1111111111-");
    Pathwright y = with("k0,1;".repeat(10) + "?0;k1,1;.;");
    y.limit(0, 's', 10);
    eq("s at a block", covers(y, 0), "1111111111---");
    Pathwright z = with("k0,1;".repeat(10) + "a7;");
    z.limit(0, 's', 10);
    eq("s has no side 0", covers(z, 0), "1111111111-");
    eq("d", covers(with("d0;x1,1,0;.;d1;x1,2,0;.;d2;x1,0,0;.;x0,0,0;"), 0), "-1--1----1");
    eq("d that was done before", covers(with("d0;x0,0,0;.;x0,0,0;"), 0), "-1-1");
    eq("v outside is done", covers(with("v0;"), 0), "1");
    Pathwright changed = with("i0,0;?0;o0;.;a0;");
    eq("as it is at first", covers(changed, 0) + covers(changed, 1), "10--0111-1");
    changed.set(0, 1, 0, 1);
    changed.set(0, 4, 0, 1);
    eq("as it is then", covers(changed, 0) + covers(changed, 1), "10--010--0");
    changed.clear(0);
    put(changed, 0, "d0;.;x0,0,0;v0;");
    eq("nothing of what was before", covers(changed, 0) + covers(changed, 1), "--11--11");
  }

  private static void endsTold() {
    says(36, "Returns the letter of the end.");
    String[] all = {"o0;e", "a0;a", "/0,0,0;z", "k0,9;g0,0;b", "k0,1;w0;.;l",
        "d0;x0,0,0;.;x0,0,0;d", "v0;e", ";e"};
    for (String one : all) {
      String text = one.equals(";e") ? "" : one.substring(0, one.length() - 1);
      eq(text, with(text).end(0, 0), one.charAt(one.length() - 1));
    }
    eq("o", way('t', "k0,32767;+0,0,0;").end(0, 0), 'o');
    Pathwright s = with("o0;".repeat(11));
    s.limit(0, 's', 10);
    eq("s", s.end(0, 63), 's');
    Pathwright x = with("i0,0;a0;");
    eq("of the first row", x.end(0, 0), 'a');
    eq("of the last row", x.end(0, 63), 'e');
    x.fix(0, 1);
    eq("of a row that is not let", x.end(0, 0), 'a');
    says(37, "Returns the statement; how many there are, if it ends behind all");
    eq("none", fresh().where(1, 0), 0);
    eq("40", with("k0,1;".repeat(40)).where(0, 0), 40);
    eq("the first", with("a0;").where(0, 0), 0);
    eq("the last", with("o0;".repeat(39) + "a0;").where(0, 0), 39);
    eq("a v outside, the last", with("o0;v0;").where(0, 0), 1);
    eq("at a w, not behind it", with("k0,1;w0;o0;.;").where(0, 0), 1);
    eq("behind a call at the end", with("d0;.;x0,0,0;").where(0, 0), 3);
  }

  private static void countsTold() {
    says(38, "Returns how many steps the walk of a row has.");
    eq("none", fresh().steps(0, 0), 0);
    Pathwright x = with(LOOPS);
    x.limit(0, 'b', 12);
    x.limit(0, 's', 120);
    eq("120", x.steps(0, 0), 120);
    Pathwright y = with("i0,0;?0;o0;.;");
    eq("of the first row", y.steps(0, 0), 2);
    eq("of the last row", y.steps(0, 63), 3);
    says(39, "Returns how many forks the walk of a row has, whether the program");
    eq("none", with("o0;").forks(0, 0), 0);
    Pathwright m = with("i0,0;?0;?0;k1,1;.;:;?1;.;.;");
    eq("not merging, by 1", m.forks(0, 1), 2);
    eq("not merging, by 0", m.forks(0, 0), 2);
    m.merge(0, true);
    eq("merging, by 1", m.forks(0, 1), 2);
    eq("merging, by 0", m.forks(0, 0), 2);
    Pathwright most = with("k7,1;w7;?7;" + "?7;.;".repeat(17) + ".;.;");
    most.limit(0, 's', 120);
    most.limit(0, 'b', 12);
    eq("as many as come", most.forks(0, 0), 13 + 12 * 18);
  }

  private static void outputsTold() {
    says(40, "Returns how many outputs the walk of a row has.");
    eq("none", fresh().outputs(0, 63), 0);
    eq("one", with("o0;").outputs(0, 0), 1);
    eq("none behind the end", with("a0;o0;").outputs(0, 0), 0);
    eq("12 of 40", with("o0;".repeat(40)).outputs(0, 0), 12);
    says(41, "Returns an output of the walk of a row.");
    Pathwright x = with("i0,0;o0;".repeat(13) + "o0;");
    eq("the first", x.output(0, 63, 0), 3);
    eq("the twelfth", x.output(0, 63, 11), 3);
    raises("the thirteenth", ELEMENT, x, () -> x.output(0, 63, 12));
    raises("-1", ELEMENT, x, () -> x.output(0, 63, -1));
    raises("none at all", ELEMENT, x, () -> x.output(1, 0, 0));
    says(42, "Tells whether the walk of a row covers a goal.");
    yes("the last row", x.goes(0, 63, 0, 1));
    yes("the last statement", x.goes(0, 0, 26, 1));
    no("its side 0", x.goes(0, 0, 26, 0));
    raises("no statement", INDEX, x, () -> x.goes(0, 0, 27, 1));
    Pathwright full = with("i0,0;" + "o0;".repeat(38) + "a0;");
    yes("the last of 40, side 1", full.goes(0, 1, 39, 1));
    yes("the last of 40, side 0", full.goes(0, 0, 39, 0));
    no("not both", full.goes(0, 0, 39, 1));
  }
}
