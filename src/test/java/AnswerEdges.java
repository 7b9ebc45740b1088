import java.math.BigInteger;

/**
 * The sentences that tell no edge of their own: what all of it is, what is made, and what a call
 * answers in general. They are asked row by row, or beside what other calls answer.
 */
final class AnswerEdges extends Edges {
  private static final String LETTERS = "+-*/%&|^=<";

  // Each value of the input 0 ends the walk in a way of its own: 0 a, 1 z, 2 e, 3 b.
  private static final String ENDS =
      "i0,0;a0;o0;k1,1;-0,0,1;/2,1,0;o0;-0,0,1;o1;?0;k4,9;g2,4;.;o0;";
  private static final String LETTERS_OF_ENDS = "azeb";
  private static final int[] PLACES_OF_ENDS = {1, 5, 14, 11};

  static void all() {
    whatItIs();
    calls();
    rows();
    termsHaveReaches();
    termsMadeSmall();
    termsMade();
    termsAsked();
    waysAndLimits();
    signsOfBlocks();
    walksEnd();
    walksCounted();
    pathsCounted();
    pathsTold();
    conditionsTold();
    outputsTold();
    goalsTold();
    keptTold();
    chanceTold();
    smallerTold();
    unlikeTold();
    checksum();
    theorem();
  }

  // ---- what it is

  private static void whatItIs() {
    says(Document.WHAT_IT_IS, "Two programs of a small language");
    Pathwright x = with("i0,0;k2,1;?0;k1,5;:;k1,-7;.;/3,1,2;o1;d0;o0;.;");
    typeAll(x, "i0,0;k1,5;o1;");
    eq("put together of statements", x.count(0), 12);
    eq("read off a text", x.read(1) + textOf(x, 1), "3i0,0;k1,5;o1;");
    eq("walked with plain numbers", outs(x, 0) + " " + outs(x, 3), "-7 5");
    eq("walked with terms", x.outputSign(1, 0, 0), num(5));
    eq("the paths that all inputs take", x.paths(0), 2);
    eq("conditions", told(x, 1, 0) + x.conditionSign(0, 1, 0), "2 ?1" + in(0));
    eq("outputs as terms", x.outputSign(0, 0, 0) + " " + x.outputSign(0, 1, 0),
        num(-7) + " " + num(5));
    eq("the least input that takes it", x.taken(0, 0, 'f') + " " + x.taken(0, 1, 'f'), "0 1");
    x.merge(0, true);
    eq("sides that meet again", x.paths(0) + " " + x.outputSign(0, 0, 0),
        "1 " + pick(in(0), num(5), num(-7)));
    eq("what is covered", x.keep(1) + " " + x.covered(0), "1 6");
    eq("what never can be", x.reaching(0, 10, 1) + " " + x.reaching(0, 7, 0), "-1 -1");
    eq("inputs tried by chance", x.fuzz(0, 40, 1) + ": " + keptOf(x), "1: 1 0");
    eq("made smaller", x.shrink(0, 63), 0);
    eq("both programs side by side", x.unlike(), 0);
  }

  private static void calls() {
    says(Document.WHAT_IT_IS, "An object is used for at most 512 calls");
    Pathwright x = fresh();
    int made = 0;
    String[] all = {"i0,0;i1,1;?0;k2,5;:;k2,6;.;s1,2;g3,0;o3;", "i0,0;a0;o0;"};
    for (int p = 0; p < 2; p++) {
      put(x, p, all[p]);
      made += all[p].split(";").length;
    }
    for (int n = 0; made < 510; n++) {
      eq("the call " + made, x.fix(n % 2, n % 3), n == 0 ? 16 : 4);
      eq("the next one", x.paths(n % 2), pathsBy(all[n % 2], n));
      eq("the one behind it", x.output(0, 63, 0), 5);
      made += 3;
    }
    while (made < 511) {
      x.rows();
      made++;
    }
    yes("the last of 512", x.isTrue(0, 63));
  }

  /** By a fresh object with the fixed inputs of the round n, and of the one ahead of it. */
  private static int pathsBy(String text, int n) {
    Pathwright x = with(text);
    if (n > 0) {
      x.fix((n - 1) % 2, (n - 1) % 3);
    }
    x.fix(n % 2, n % 3);
    return x.paths(0);
  }

  // ---- inputs

  private static void rows() {
    says(6, "Returns the value.");
    Pathwright x = fresh();
    x.width(0, 0);
    x.width(1, 3);
    x.width(2, 0);
    x.width(3, 3);
    int same = 0;
    for (int row = 0; row < 64; row++) {
      same += x.part(row, 0) == 0 && x.part(row, 1) == row % 8 && x.part(row, 2) == 0
          && x.part(row, 3) == row / 8 ? 1 : 0;
    }
    eq("rows whose values are told", same, 64);
    says(7, "Returns whether it is.");
    x.fix(1, 5);
    same = 0;
    for (int row = 0; row < 64; row++) {
      same += x.isLet(row) == (row % 8 == 5) ? 1 : 0;
    }
    eq("rows told as they are", same, 64);
  }

  // ---- terms

  private static void termsHaveReaches() {
    says("The reach of a term has a least and a greatest number.");
    int[] numbers = {MIN, -40000, -7, -1, 1, 3, 40000, MAX};
    for (char letter : LETTERS.toCharArray()) {
      for (int a : numbers) {
        for (int b : numbers) {
          Pathwright x = fresh();
          x.width(2, 0);
          x.width(3, 0);
          int one = x.make('*', x.input(0), x.number(a));
          int other = x.make('-', x.make('*', x.input(1), x.number(b)), x.number(1));
          int t = x.make(letter, one, other);
          int inside = 0;
          for (int row = 0; row < 16; row++) {
            long value = x.value(t, row);
            inside += x.reach(t, 'l') <= value && value <= x.reach(t, 'g') ? 1 : 0;
          }
          eq("rows for which it is within its reach, " + a + letter + b, inside, 16);
        }
      }
    }
  }

  /** Made small or not, a term has the value of what it was made of. */
  private static void termsMadeSmall() {
    says("A term is made small.");
    for (char letter : LETTERS.toCharArray()) {
      for (int i = 0; i < 7; i++) {
        for (int j = 0; j < 7; j++) {
          Pathwright x = someTerms();
          int t = x.make(letter, i, j);
          int same = 0;
          for (int row = 0; row < 16; row++) {
            BigInteger due = Oracle.compute(letter, BigInteger.valueOf(x.value(i, row)),
                BigInteger.valueOf(x.value(j, row)));
            same += due.equals(BigInteger.valueOf(x.value(t, row))) ? 1 : 0;
          }
          eq("rows of which it has the value, " + i + letter + j, same, 16);
        }
      }
    }
    for (int c = 0; c < 7; c++) {
      Pathwright x = someTerms();
      int t = x.choose(c, 4, 5);
      int u = x.choose(c, 5, 5);
      int same = 0;
      for (int row = 0; row < 16; row++) {
        long due = x.value(x.value(c, row) != 0 ? 4 : 5, row);
        same += x.value(t, row) == due && x.value(u, row) == x.value(5, row) ? 1 : 0;
      }
      eq("rows of which a choice by " + c + " has the value", same, 16);
    }
  }

  /** The numbers -1, 0, 1 and 2, two inputs, and one of no width, which is 0 and no number. */
  private static Pathwright someTerms() {
    Pathwright x = fresh();
    x.width(2, 0);
    x.width(3, 0);
    for (int n = -1; n <= 2; n++) {
      x.number(n);
    }
    x.input(0);
    x.input(1);
    x.input(3);
    return x;
  }

  private static void termsMade() {
    says(9, "Makes an input.");
    for (int k = 0; k < 4; k++) {
      Pathwright x = fresh();
      int t = x.input(k);
      int same = 0;
      for (int row = 0; row < 64; row++) {
        same += x.value(t, row) == x.part(row, k) ? 1 : 0;
      }
      eq("rows that give it its value, " + k, same, 64);
      x.fix(k, 1);
      eq("an input that is fixed is one, too", x.sign(x.input(k)), in(k));
    }
    says(9, "Returns the number of the term.");
    Pathwright x = fresh();
    eq("one by one", x.input(3) + " " + x.input(0) + " " + x.input(3), "0 1 2");
    eq("each its own", x.sign(0) + " " + x.sign(1) + " " + x.sign(2),
        in(3) + " " + in(0) + " " + in(3));
    says(10, "Makes a term of two.");
    for (char letter : LETTERS.toCharArray()) {
      Pathwright y = fresh();
      y.input(1);
      y.input(0);
      y.make(letter, 0, 1);
      eq("in their order, by " + letter, y.sign(2), let(letter, in(1), in(0)));
      y.make(letter, 1, 0);
      eq("the other way round, by " + letter, y.sign(3), let(letter, in(0), in(1)));
    }
    says(11, "Makes a choice.");
    x.input(1);
    int chosen = x.choose(0, 1, 3);
    eq("of c, x and y", x.sign(chosen), pick(in(3), in(0), in(1)));
    eq("by c", x.value(chosen, 0b1_0_01_10) + " " + x.value(chosen, 0b0_0_01_10), "2 1");
    says(11, "Returns the number of the term.");
    eq("the next one", chosen, 4);
    eq("one that is x", x.choose(0, 1, 1) + " " + x.sign(5), "5 " + in(0));
    says(12, "Makes a narrowed term.");
    Pathwright y = fresh();
    int wide = y.make('*', y.input(0), y.number(30000));
    eq("wrapped", y.value(y.narrow('w', 16, wide), 2), 60000 - 65536);
    eq("cut off", y.value(y.narrow('s', 16, wide), 2), 32767);
    eq("both are made", y.sign(3) + " " + y.sign(4),
        wrap(16, y.sign(wide)) + " " + cut(16, y.sign(wide)));
    says(12, "Returns the number of the term.");
    eq("the next one", y.narrow('w', 16, wide), 5);
    eq("one that is what is narrowed", y.narrow('s', 32, wide) + " " + y.sign(6),
        "6 " + y.sign(wide));
  }

  private static void termsAsked() {
    says(14, "Returns how many.");
    Pathwright x = fresh();
    x.input(0);
    x.input(1);
    x.make('+', 0, 1);
    x.make('+', 1, 0);
    x.make('*', 2, 3);
    x.make('-', 2, 2);
    StringBuilder sizes = new StringBuilder();
    for (int t = 0; t < 6; t++) {
      sizes.append(x.size(t)).append(' ');
    }
    eq("of each", sizes.toString(), "1 1 3 3 5 1 ");
    says(15, "Returns the sign of a term.");
    eq("of what it is made of", x.sign(4), let('*', let('+', in(0), in(1)), let('+', in(1), in(0))));
    eq("of what it was made small to", x.sign(5), num(0));
    says(15, "Returns the sign.");
    eq("by each number that it has", x.sign(x.make('+', 5, 4)), x.sign(4));
    eq("below 0, too", x.sign(x.number(-1)), 1 - Q);
    says(16, "Returns the number.");
    int product = x.make('*', x.make('*', 0, x.number(MAX)), x.make('*', 1, x.number(MIN)));
    // What is put in is narrowed, so it has all of 32 digits.
    eq("far beyond an int, the least", x.reach(product, 'l'), -4611686016279904256L);
    eq("far beyond an int, the greatest", x.reach(product, 'g'), 4611686018427387904L);
    says(17, "Returns the value.");
    eq("far beyond an int", x.value(product, 0b01_01), -4611686016279904256L);
    eq("0", x.value(product, 0), 0);
  }

  // ---- programs

  private static void waysAndLimits() {
    says(30, "Gives a program a way.");
    String text = "k0,32767;k1,1;+2,0,1;o2;";
    for (int p = 0; p < 2; p++) {
      Pathwright x = with(text);
      put(x, 1, text);
      x.way(p, 's');
      eq("the other one by w", x.output(1 - p, 0, 0), -32768);
      eq("this one by s", x.output(p, 0, 0), 32767);
      x.way(p, 't');
      eq("this one by t", x.end(p, 0), 'o');
      x.way(p, 'w');
      eq("by w again", x.output(p, 0, 0), -32768);
    }
    says(31, "Gives a program a limit.");
    String[] texts = {"k0,4;g1,0;", "o0;".repeat(11), "k0,5;k1,1;w0;-0,0,1;.;"};
    String whats = "rsb";
    int[] less = {4, 10, 4};
    int[] more = {5, 11, 5};
    for (int p = 0; p < 2; p++) {
      for (int i = 0; i < 3; i++) {
        Pathwright x = with(texts[i]);
        put(x, 1, texts[i]);
        x.limit(0, whats.charAt(i), more[i]);
        x.limit(1, whats.charAt(i), more[i]);
        eq("both by more", x.end(0, 0) + "" + x.end(1, 0), "ee");
        x.limit(p, whats.charAt(i), less[i]);
        eq("this one by less", x.end(p, 0), "bsl".charAt(i));
        eq("the other one by more", x.end(1 - p, 0), 'e');
      }
    }
  }

  private static void signsOfBlocks() {
    says(": and . as told.");
    eq("what is ahead of :", outs(with("k0,1;?0;o0;:;o1;.;o2;"), 0), "1 0");
    eq("what is behind :", outs(with("?0;o0;:;k1,8;o1;.;o2;"), 0), "8 0");
    eq("behind . of ?", outs(with("?0;o0;.;k1,7;o1;"), 0), "7");
    eq(". of w goes back to it", outs(with("k0,2;k1,1;w0;-0,0,1;.;o0;"), 0), "0");
    eq(". of d goes back to x", outs(with("d0;o0;.;k1,6;x0,0,1;o0;o1;"), 0), "6 0 6");
    eq("steps", with("?0;:;.;w0;.;d0;.;").steps(0, 0), 2);
  }

  // ---- walks

  /** The program ends in four ways; rows with the same value of the input 0 end alike. */
  private static void walksEnd() {
    Pathwright x = with(ENDS);
    says(36, "Tells how the walk of a row ends.");
    int same = 0;
    for (int row = 0; row < 64; row++) {
      same += x.end(0, row) == LETTERS_OF_ENDS.charAt(row % 4) ? 1 : 0;
    }
    eq("rows with their letters", same, 64);
    says(37, "Tells at which statement the walk of a row ends.");
    same = 0;
    for (int row = 0; row < 64; row++) {
      same += x.where(0, row) == PLACES_OF_ENDS[row % 4] ? 1 : 0;
    }
    eq("rows with their statements", same, 64);
    says(42, "Returns whether it does.");
    String[] due = {"10------------", "111110--------", "1111111110---1", "111111111110--"};
    for (int row = 0; row < 4; row++) {
      eq("the row " + row, covers(x, row), due[row]);
    }
  }

  private static void walksCounted() {
    Pathwright x = with(ENDS);
    int[] steps = {2, 6, 11, 12};
    int[] forks = {1, 2, 3, 4};
    int[] outputs = {0, 1, 4, 3};
    int[] same = new int[3];
    for (int row = 0; row < 64; row++) {
      same[0] += x.steps(0, row) == steps[row % 4] ? 1 : 0;
      same[1] += x.forks(0, row) == forks[row % 4] ? 1 : 0;
      same[2] += x.outputs(0, row) == outputs[row % 4] ? 1 : 0;
    }
    says(38, "Returns how many.");
    eq("rows with their steps", same[0], 64);
    says(39, "Returns how many.");
    eq("rows with their forks", same[1], 64);
    says(40, "Returns how many.");
    eq("rows with their outputs", same[2], 64);
    says(41, "Returns the number.");
    Pathwright y = with("i0,0;i1,1;k2,-9;*3,0,1;o3;*6,2,0;o6;");
    int right = 0;
    for (int row = 0; row < 64; row++) {
      right += y.output(0, row, 0) == y.part(row, 0) * y.part(row, 1)
          && y.output(0, row, 1) == -9 * y.part(row, 0) ? 1 : 0;
    }
    eq("rows with their outputs", right, 64);
  }

  // ---- paths

  private static void pathsCounted() {
    says(44, "Returns how many.");
    Pathwright x = with(ENDS);
    eq("one for each end", x.paths(0), 4);
    x.fix(0, 2);
    eq("the one that is let", x.paths(0), 1);
    x.free(0);
    x.width(0, 1);
    eq("those of less rows", x.paths(0), 2);
    says(45, "Tells which path a row takes.");
    Pathwright y = with(ENDS);
    y.fix(3, 1);
    int same = 0;
    for (int row = 0; row < 64; row++) {
      same += y.path(0, row) == (row < 32 ? -1 : row % 4) ? 1 : 0;
    }
    eq("rows with their paths", same, 64);
  }

  private static void pathsTold() {
    Pathwright x = with(ENDS);
    x.fix(3, 1);
    says(46, "Returns the number.");
    String[] due = {"32 8 1 1 0", "33 8 5 2 1", "34 8 14 3 4", "35 8 11 3 3"};
    for (int i = 0; i < 4; i++) {
      StringBuilder got = new StringBuilder();
      for (char what : "fnwco".toCharArray()) {
        got.append(got.length() == 0 ? "" : " ").append(x.taken(0, i, what));
      }
      eq("of the path " + i, got.toString(), due[i]);
    }
    says(47, "Tells how a path ends.");
    int same = 0;
    for (int row = 32; row < 64; row++) {
      int i = x.path(0, row);
      same += x.ending(0, i) == x.end(0, row) && x.taken(0, i, 'w') == x.where(0, row) ? 1 : 0;
    }
    eq("rows that end as their paths do", same, 32);
  }

  private static String told(Pathwright x, int i, int j) {
    return x.condition(0, i, j, 's') + " " + (char) x.condition(0, i, j, 'k')
        + x.condition(0, i, j, 'h');
  }

  private static void conditionsTold() {
    Pathwright x = with(ENDS);
    long less = let('-', in(0), num(1));
    long[] terms = {in(0), less, let('-', less, num(1))};
    String[] kinds = {"1 a", "5 z", "9 ?"};
    says(48, "Returns the number.");
    for (int i = 0; i < 4; i++) {
      for (int j = 0; j < x.taken(0, i, 'c'); j++) {
        eq("the condition " + j + " of " + i, told(x, i, j), kinds[j] + (j < i ? 1 : 0));
        eq("its size", x.condition(0, i, j, 'z'), j == 0 ? 1 : j == 1 ? 3 : 4);
      }
    }
    says(49, "Returns the sign.");
    for (int i = 0; i < 4; i++) {
      for (int j = 0; j < x.taken(0, i, 'c'); j++) {
        eq("the condition " + j + " of " + i, x.conditionSign(0, i, j), terms[j]);
      }
    }
    says(50, "Tells whether a condition holds for a row.");
    for (int i = 0; i < 4; i++) {
      for (int j = 0; j < x.taken(0, i, 'c'); j++) {
        int same = 0;
        for (int row = 0; row < 16; row++) {
          boolean isNot0 = row % 4 != j;
          same += x.holds(0, i, j, row) == (isNot0 == j < i) ? 1 : 0;
        }
        eq("rows for which it is told, " + i + ", " + j, same, 16);
      }
    }
  }

  private static void outputsTold() {
    Pathwright x = with(ENDS);
    long less = let('-', in(0), num(1));
    long[][] due = {{}, {in(0)}, {in(0), less, num(1), let('-', less, num(1))},
        {in(0), less, num(1)}};
    says(51, "Returns the sign.");
    for (int i = 0; i < 4; i++) {
      eq("how many there are", x.taken(0, i, 'o'), due[i].length);
      for (int j = 0; j < due[i].length; j++) {
        eq("the output " + j + " of " + i, x.outputSign(0, i, j), due[i][j]);
      }
    }
    says(52, "Returns the value.");
    for (int row = 0; row < 16; row++) {
      int i = x.path(0, row);
      int same = 0;
      for (int j = 0; j < due[i].length; j++) {
        same += x.outputValue(0, i, j, row) == x.output(0, row, j) ? 1 : 0;
      }
      eq("outputs of the row " + row, same, due[i].length);
    }
  }

  // ---- goals

  private static void goalsTold() {
    Pathwright x = with(ENDS);
    x.fix(0, 3);
    says(53, "Returns how many.");
    eq("of the rows that are let", x.goals(0), 12);
    x.free(0);
    eq("of all", x.goals(0), 12 + 4);
    says(54, "Returns the least row that is let and covers a goal.");
    for (int fixed = 0; fixed < 3; fixed++) {
      Pathwright y = with(ENDS);
      if (fixed > 0) {
        y.fix(0, fixed + 1);
        y.fix(1, 1);
      }
      int same = 0;
      for (int s = 0; s < 14; s++) {
        for (int side = 0; side < 2; side++) {
          same += y.reaching(0, s, side) == leastTo(y, s, side) ? 1 : 0;
        }
      }
      eq("goals with their least rows", same, 28);
    }
  }

  private static int leastTo(Pathwright x, int s, int side) {
    for (int row = 0; row < 8; row++) {
      if (x.isLet(row) && x.goes(0, row, s, side)) {
        return row;
      }
    }
    return -1;
  }

  private static void keptTold() {
    says(55, "Returns how many are kept then.");
    Pathwright x = with(ENDS);
    eq("one by one", x.keep(40) + " " + x.keep(2) + " " + x.keep(40) + " " + x.keep(3), "1 2 2 3");
    says(57, "Returns the row.");
    eq("each of them", x.kept(0) + " " + x.kept(1) + " " + x.kept(2), "40 2 3");
    says(58, "Returns how many.");
    int due = 0;
    for (int s = 0; s < 14; s++) {
      for (int side = 0; side < 2; side++) {
        due += x.goes(0, 40, s, side) || x.goes(0, 2, s, side) || x.goes(0, 3, s, side) ? 1 : 0;
      }
    }
    eq("all that one of them covers", x.covered(0), due);
    eq("of the other program", x.covered(1), 0);
  }

  private static void chanceTold() {
    says(60, "Tries rows by chance, and keeps some.");
    for (int seed = 0; seed < 20; seed++) {
      Pathwright x = with(ENDS);
      x.keep(0);
      int more = x.fuzz(0, 40, seed * 7919);
      String rows = keptOf(x);
      eq("how many are kept", rows.split(" ").length, more + 1);
      Pathwright y = with(ENDS);
      y.keep(0);
      int grown = 0;
      for (int n = 1; n <= more; n++) {
        int before = y.covered(0);
        y.keep(x.kept(n));
        grown += y.covered(0) > before ? 1 : 0;
      }
      eq("each one covers what none ahead of it does", grown, more);
      yes("by 40 rounds some row comes", more > 0);
    }
  }

  private static void smallerTold() {
    says(61, "Returns the row that it comes to.");
    Pathwright x = with(ENDS);
    for (int row = 0; row < 64; row += 7) {
      int least = x.shrink(0, row);
      eq("what is kept of the row " + row, least, row % 4);
      eq("it comes to itself", x.shrink(0, least), least);
    }
    x.fix(2, 1);
    eq("one that is let", x.shrink(0, 63), 0b0_1_00_11);
  }

  private static void unlikeTold() {
    says(62, "Returns the least row that is let by which the two programs");
    Pathwright x = with("i0,0;i1,1;*2,0,1;o2;");
    put(x, 1, "i0,0;i1,1;&2,0,1;o2;");
    eq("1 and 2", x.unlike(), 0b01_10);
    x.fix(1, 2);
    eq("2 and 1", x.unlike(), 0b10_01);
    x.fix(0, 0);
    eq("0 is always 0", x.unlike(), -1);
    x.copy(0);
    x.free(0);
    x.free(1);
    eq("one like the other", x.unlike(), -1);
  }

  // ---- the theorem

  private static void checksum() {
    says(63, "Returns a number that depends on all that is told.");
    Pathwright x = fresh();
    long before = x.checksum();
    eq("asked twice", x.checksum(), before);
    for (int n = 0; n < 19; n++) {
      tell(x, n);
      long now = x.checksum();
      yes("another one by the change " + n, now != before);
      before = now;
    }
    x.paths(1);
    x.isTrue(1, 0);
    x.shrink(1, 31);
    eq("no other by what is asked", x.checksum(), before);
  }

  private static void tell(Pathwright x, int n) {
    switch (n) {
      case 0: x.width(3, 0); break;
      case 1: x.fix(2, 1); break;
      case 2: x.fix(2, 0); break;
      case 3: x.free(2); break;
      case 4: x.number(3); break;
      case 5: x.input(1); break;
      case 6: x.forget(); break;
      case 7: x.add(0, 'k', 1, 2, 0); break;
      case 8: x.set(0, 0, 0, 2); break;
      case 9: x.set(0, 0, 1, 3); break;
      case 10: x.insert(0, 1, 0); break;
      case 11: x.copy(0); break;
      case 12: x.way(1, 't'); break;
      case 13: x.limit(1, 'r', 5); break;
      case 14: x.limit(0, 's', 81); break;
      case 15: x.limit(1, 'b', 7); break;
      case 16: x.merge(1, true); break;
      case 17: x.keep(3); break;
      default: x.type('#', 'a', '#', '#'); break;
    }
  }

  /** The theorem once more, by what other calls answer. */
  private static void theorem() {
    says(64, "Tries the theorem, (1), (2) and (3), on a program and a row");
    for (int row = 0; row < 8; row++) {
      Pathwright x = with(ENDS);
      x.fix(1, 1);
      int own = x.path(0, row);
      boolean isDue = true;
      for (int i = 0; i < x.paths(0) && own >= 0; i++) {
        boolean holds = true;
        for (int j = 0; j < x.taken(0, i, 'c'); j++) {
          holds &= x.holds(0, i, j, row);
        }
        isDue &= holds == (i == own);
      }
      if (own >= 0) {
        isDue &= x.ending(0, own) == x.end(0, row) && x.taken(0, own, 'w') == x.where(0, row)
            && x.taken(0, own, 'o') == x.outputs(0, row);
        for (int j = 0; isDue && j < x.outputs(0, row); j++) {
          isDue = x.outputValue(0, own, j, row) == x.output(0, row, j);
        }
      }
      yes("by the other calls, the row " + row, isDue);
      eq("told so", x.isTrue(0, row) ? 1 : 0, isDue ? 1 : 0);
    }
    says(65, "Returns whether it is so.");
    for (char way : new char[] {'w', 's', 't'}) {
      Pathwright x = way(way, ENDS);
      yes("by " + way, x.goalsAreTrue(0));
      x.merge(0, true);
      yes("merging, by " + way, x.goalsAreTrue(0));
    }
  }
}
