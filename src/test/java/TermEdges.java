import java.math.BigInteger;

/** The edges of Part 2 and of the promises 8 to 20: terms. */
final class TermEdges extends Edges {
  private static final String ARITHMETIC = "+-*/%&|^";
  private static final long BEYOND = MAX + 1L;
  private static final long BELOW = MIN - 1L;

  static void all() {
    isHeading("Part 2, terms.");
    kinds();
    values();
    narrowedValues();
    reachesAlone();
    reachesOfSums();
    reachesOfQuotients();
    reachesOfDigits();
    operandsTooWide();
    smallByEquality();
    smallByOrder();
    smallByNumbers();
    smallChoices();
    smallNarrowed();
    signs();
    numbersOfTerms();
    termsMade();
    termsAsked();
    rowsOfTerms();
  }

  private static void kinds() {
    says("A term is a number; an input; a letter with two terms, for +");
    for (char letter = 0; letter < 300; letter++) {
      char c = letter;
      Pathwright x = fresh();
      x.input(0);
      x.number(40000);
      if ("+-*/%&|^=<".indexOf(c) < 0) {
        raises("the letter " + (int) c, ARGUMENT, x, () -> x.make(c, 0, 1));
      } else {
        eq("the letter " + c, x.make(c, 0, 1), 2);
      }
    }
    Pathwright x = fresh();
    x.make('*', x.input(0), x.number(40000));
    for (int bits : new int[] {-32, -1, 0, 1, 8, 15, 17, 31, 33, 64, MIN, MAX}) {
      raises("narrowed to " + bits, ARGUMENT, x, () -> x.narrow('w', bits, 2));
      raises("cut to " + bits, ARGUMENT, x, () -> x.narrow('s', bits, 2));
    }
    eq("narrowed to 16", x.narrow('w', 16, 2), 3);
    eq("cut to 16", x.narrow('s', 16, 2), 4);
    eq("narrowed to 32", x.narrow('w', 32, 2), 5);
    eq("cut to 32", x.narrow('s', 32, 2), 6);
    says("Two terms are the same if they are made likewise of the same.");
    Pathwright y = fresh();
    int one = y.make('+', y.input(0), y.input(1));
    int two = y.make('+', y.input(0), y.input(1));
    int turned = y.make('+', y.input(1), y.input(0));
    eq("likewise", y.sign(y.make('-', one, two)), num(0));
    eq("the other way round", y.sign(y.make('-', one, turned)),
        let('-', y.sign(one), y.sign(turned)));
    eq("inputs", y.sign(y.make('=', y.input(2), y.input(2))), num(1));
    eq("unlike inputs", y.sign(y.make('=', y.input(2), y.input(3))), let('=', in(2), in(3)));
    eq("by numbers in it", y.size(y.make('|', y.make('+', one, y.number(7)),
        y.make('-', two, y.number(7)))), 7);
    Pathwright z = fresh();
    int wide = z.make('*', z.input(0), z.number(20000));
    int wrapped = z.narrow('w', 16, wide);
    eq("wrapped alike", z.sign(z.make('^', wrapped, z.narrow('w', 16, wide))), num(0));
    eq("wrapped and cut", z.sign(z.make('^', wrapped, z.narrow('s', 16, wide))),
        let('^', z.sign(wrapped), cut(16, z.sign(wide))));
  }

  private static final int[] AMOUNTS = {
    MIN, MIN + 1, -65537, -32769, -32768, -7, -3, -2, -1, 0, 1, 2, 3, 7, 8, 255, 32767, 32768,
    1 << 30, MAX - 1, MAX
  };

  /** Once made small, of two numbers, and once for a row that gives just these two. */
  private static long valueOf(char letter, int a, int b) {
    Pathwright x = fresh();
    int small = x.make(letter, x.number(a), x.number(b));
    int one = x.make('*', x.input(2), x.number(a));
    int other = x.make('*', x.input(3), x.number(b));
    int t = x.make(letter, one, other);
    eq(a + " " + letter + " " + b + " made small", x.sign(small), num(x.value(t, 63)));
    return x.value(t, 63);
  }

  private static void values() {
    says("The value of a term for a row is exact");
    for (char letter : "+-*/%&|^=<".toCharArray()) {
      for (int a : AMOUNTS) {
        for (int b : AMOUNTS) {
          BigInteger due = Oracle.compute(letter, BigInteger.valueOf(a), BigInteger.valueOf(b));
          eq(a + " " + letter + " " + b, valueOf(letter, a, b), due.longValueExact());
        }
      }
    }
    eq("the greatest sum", valueOf('+', MAX, MAX), 4294967294L);
    eq("the least sum", valueOf('+', MIN, MIN), -4294967296L);
    eq("the greatest difference", valueOf('-', MAX, MIN), 4294967295L);
    eq("the least difference", valueOf('-', MIN, MAX), -4294967295L);
    eq("the greatest product", valueOf('*', MIN, MIN), 4611686018427387904L);
    eq("the least product", valueOf('*', MIN, MAX), -4611686016279904256L);
    eq("the greatest quotient", valueOf('/', MIN, -1), 2147483648L);
    eq("cut towards 0 from below", valueOf('/', -7, 2), -3);
    eq("cut towards 0 by a number below 0", valueOf('/', 7, -2), -3);
    eq("left with the sign of the first below 0", valueOf('%', -7, 2), -1);
    eq("left with the sign of the first", valueOf('%', 7, -2), 1);
    eq("/ by 0", valueOf('/', MIN, 0), 0);
    eq("% by 0", valueOf('%', MAX, 0), 0);
    eq("% of the least by -1", valueOf('%', MIN, -1), 0);
    eq("& below 0", valueOf('&', -4, 7), 4);
    eq("| below 0", valueOf('|', -4, 1), -3);
    eq("^ below 0", valueOf('^', -1, MAX), MIN);
    eq("= of the same", valueOf('=', MIN, MIN), 1);
    eq("= of the next", valueOf('=', MIN, MIN + 1), 0);
    eq("< of the same", valueOf('<', MAX, MAX), 0);
    eq("< of the next", valueOf('<', MAX - 1, MAX), 1);
    Pathwright x = fresh();
    int c = x.make('-', x.input(1), x.number(1));
    int t = x.choose(c, x.input(0), x.number(9));
    eq("a choice by -1", x.value(t, 2), 2);
    eq("a choice by 0", x.value(t, 0b01_10), 9);
    eq("a choice by 1", x.value(t, 0b10_11), 3);
  }

  private static void narrows(char how, int bits, long n, long due) {
    Pathwright x = fresh();
    long half = n / 2;
    int term = x.make('+', x.make('*', x.input(2), x.number((int) half)),
        x.make('*', x.input(3), x.number((int) (n - half))));
    eq(n + " by " + how + bits, x.value(x.narrow(how, bits, term), 63), due);
    eq("the number " + n + " by " + how + bits, x.value(x.narrow(how, bits, great(x, n)), 63),
        due);
  }

  /** Narrowing is the end of the sentence on values. */
  private static void narrowedValues() {
    long[][] sixteen = {
      {32767, 32767, 32767}, {32768, -32768, 32767}, {-32768, -32768, -32768},
      {-32769, 32767, -32768}, {65535, -1, 32767}, {65536, 0, 32767}, {65537, 1, 32767},
      {-65536, 0, -32768}, {-65537, -1, -32768}, {MAX, -1, 32767}, {MIN, 0, -32768},
      {0, 0, 0}, {-1, -1, -1}
    };
    for (long[] s : sixteen) {
      narrows('w', 16, s[0], s[1]);
      narrows('s', 16, s[0], s[2]);
    }
    long[][] more = {
      {MAX, MAX, MAX}, {BEYOND, MIN, MAX}, {MIN, MIN, MIN}, {BELOW, MAX, MIN},
      {4294967294L, -2, MAX}, {-4294967296L, 0, MIN}, {-4294967295L, 1, MIN}
    };
    for (long[] s : more) {
      narrows('w', 32, s[0], s[1]);
      narrows('s', 32, s[0], s[2]);
    }
  }

  private static void reachesAlone() {
    says("That of a number is itself twice; of an input 0 and 2 to the power");
    Pathwright x = fresh();
    for (int n : new int[] {MIN, -1, 0, 1, MAX}) {
      eq("a number", reachOf(x, x.number(n)), n + " to " + n);
    }
    eq("a number of more digits", reachOf(x, great(x, BEYOND)), "2147483648 to 2147483648");
    String[] widths = {"0 to 0", "0 to 1", "0 to 3", "0 to 7", "0 to 15"};
    for (int bits = 0; bits <= 4; bits++) {
      Pathwright y = fresh();
      y.width(1, 0);
      y.width(0, bits);
      eq("an input of " + bits, reachOf(y, y.input(0)), widths[bits]);
    }
    Pathwright y = fresh();
    int wide = span(y, 2, BELOW, -3);
    for (char how : new char[] {'w', 's'}) {
      eq(how + "16", reachOf(y, y.narrow(how, 16, wide)), "-32768 to 32767");
      eq(how + "32", reachOf(y, y.narrow(how, 32, wide)), "-2147483648 to 2147483647");
    }
    eq("of a choice, all of x", chosenReach(-9, 5, 0, 2), "-9 to 5");
    eq("of a choice, all of y", chosenReach(0, 2, -9, 5), "-9 to 5");
    eq("of a choice, an end of each", chosenReach(-9, 2, -3, 5), "-9 to 5");
    eq("of a choice, the other ends", chosenReach(-3, 5, -9, 2), "-9 to 5");
    eq("of a choice, beyond 32 digits", chosenReach(BELOW, -3, 5, BEYOND),
        "-2147483649 to 2147483648");
    Pathwright z = fresh();
    int low = span(z, 2, -9, 2);
    eq("=", reachOf(z, z.make('=', low, z.input(0))), "0 to 1");
    eq("<", reachOf(z, z.make('<', low, z.input(0))), "0 to 1");
  }

  private static String chosenReach(long a, long b, long c, long d) {
    Pathwright x = fresh();
    return reachOf(x, x.choose(x.input(0), span(x, 2, a, b), span(x, 3, c, d)));
  }

  /** The inputs 2 and 3 have one digit, but none for a reach of one number. */
  private static Pathwright forSpans(long a, long b, long c, long d) {
    Pathwright x = fresh();
    x.width(2, a == b ? 0 : 1);
    x.width(3, c == d ? 0 : 1);
    return x;
  }

  /** The reach of a letter's term of two terms with these reaches, neither of which is a number. */
  private static void reaches(char letter, long a, long b, long c, long d, String due) {
    Pathwright x = forSpans(a, b, c, d);
    int one = span(x, 2, a, b);
    int other = span(x, 3, c, d);
    eq("first", reachOf(x, one), a + " to " + b);
    eq("second", reachOf(x, other), c + " to " + d);
    eq("(" + a + " to " + b + ") " + letter + " (" + c + " to " + d + ")",
        reachOf(x, x.make(letter, one, other)), due);
  }

  private static void reachesOfSums() {
    says("Of + the sums of the two least and of the two greatest numbers; of -");
    reaches('+', -2, 3, 10, 40, "8 to 43");
    reaches('+', MIN, MAX, MIN, MAX, "-4294967296 to 4294967294");
    reaches('-', -2, 3, 10, 40, "-42 to -7");
    reaches('-', MIN, MAX, MIN, MAX, "-4294967295 to 4294967295");
    reaches('*', 2, 3, 5, 7, "10 to 21");
    reaches('*', -2, 3, 5, 7, "-14 to 21");
    reaches('*', -3, -2, 5, 7, "-21 to -10");
    reaches('*', 2, 3, -7, -5, "-21 to -10");
    reaches('*', 2, 3, -7, 5, "-21 to 15");
    reaches('*', -3, -2, -7, -5, "10 to 21");
    reaches('*', -3, 2, -7, 5, "-15 to 21");
    reaches('*', -3, 4, -5, 7, "-21 to 28");
    reaches('*', -2, 3, -5, 7, "-15 to 21");
    reaches('*', -5, 1, -7, 2, "-10 to 35");
    reaches('*', 0, 0, -7, 2, "0 to 0");
    reaches('*', MIN, MAX, MIN, MAX, "-4611686016279904256 to 4611686018427387904");
    says("Let x and y be the two terms of a letter, and the amount of a reach");
    reaches('/', -9, 8, 1, 2, "-9 to 9");
    reaches('/', -8, 9, 1, 2, "-9 to 9");
    reaches('/', MIN, MAX, 1, 2, "-2147483648 to 2147483648");
    reaches('%', -90, 80, -9, 8, "-8 to 8");
    reaches('%', -90, 80, -8, 9, "-8 to 8");
    reaches('%', -90, 80, MIN, MAX, "-2147483647 to 2147483647");
  }

  private static void reachesOfQuotients() {
    says("Of /: if the least numbers of both are at least 0, 0 and the greatest");
    reaches('/', 0, 9, 0, 4, "0 to 9");
    reaches('/', 5, 9, 2, 4, "0 to 9");
    reaches('/', -1, 9, 0, 4, "-9 to 9");
    reaches('/', 0, 9, -1, 4, "-9 to 9");
    reaches('/', 5, 9, -7, -6, "-9 to 9");
    reaches('/', -1, 9, -1, 4, "-9 to 9");
    reaches('/', -9, -5, 0, 4, "-9 to 9");
    reaches('/', 0, 0, -1, 4, "0 to 0");
    says("Of %: m is the amount of y less 1, but 0 if the amount is 0");
    reaches('%', 0, 9, 0, 0, "0 to 0");
    reaches('%', -1, 9, 0, 0, "0 to 0");
    reaches('%', -1, 9, 0, 1, "0 to 0");
    reaches('%', -1, 9, -1, 0, "0 to 0");
    reaches('%', -1, 9, 0, 2, "-1 to 1");
    reaches('%', 0, 9, 0, 9, "0 to 8");
    reaches('%', 0, 9, 0, 10, "0 to 9");
    reaches('%', 0, 9, 0, 11, "0 to 9");
    reaches('%', 0, 9, -11, 3, "0 to 9");
    reaches('%', 2, 9, -5, 3, "0 to 4");
    reaches('%', -1, 2, -50, 3, "-49 to 49");
    reaches('%', -9, -8, 2, 3, "-2 to 2");
  }

  private static void reachesOfDigits() {
    String all = "-2147483648 to 2147483647";
    says("Of &: if the least numbers of both are at least 0, 0 and the lesser");
    reaches('&', 0, 9, 0, 12, "0 to 9");
    reaches('&', 5, 12, 0, 9, "0 to 9");
    reaches('&', 0, 9, -1, 4, "0 to 9");
    reaches('&', -1, 9, 0, 12, "0 to 12");
    reaches('&', -1, 9, -1, 12, all);
    reaches('&', -9, -8, -7, -6, all);
    reaches('&', 0, 0, -1, 12, "0 to 0");
    reaches('&', 3, 9, MIN, MAX, "0 to 9");
    says("Of | and ^: if the least numbers of both are at least 0, 0 and the");
    int[][] kinds = {{1, 1}, {2, 3}, {3, 3}, {4, 7}, {7, 7}, {8, 15}, {15, 15}, {16, 31},
        {65535, 65535}, {65536, 131071}, {(1 << 30) - 1, (1 << 30) - 1}, {1 << 30, MAX},
        {MAX - 1, MAX}, {MAX, MAX}};
    for (char letter : new char[] {'|', '^'}) {
      for (int[] kind : kinds) {
        reaches(letter, 0, kind[0], 0, 1, "0 to " + kind[1]);
        reaches(letter, 0, 1, 0, kind[0], "0 to " + kind[1]);
      }
      reaches(letter, 0, 0, 0, 0, "0 to 0");
      reaches(letter, 5, 6, 0, 0, "0 to 7");
      reaches(letter, -1, 6, 0, 5, all);
      reaches(letter, 0, 6, -1, 5, all);
      reaches(letter, -1, 6, -1, 5, all);
    }
  }

  private static void operandsTooWide() {
    says("What a term of these letters is made of has a reach within");
    long[][] spans = {{0, MAX}, {2, BEYOND}, {MIN, -2}, {BELOW, -3}, {MIN, MAX}};
    for (long[] span : spans) {
      boolean isWide = span[0] < MIN || span[1] > MAX;
      for (char letter : ARITHMETIC.toCharArray()) {
        Pathwright x = fresh();
        int wide = span(x, 2, span[0], span[1]);
        int b = x.input(1);
        long put = isWide ? wrap(32, x.sign(wide)) : x.sign(wide);
        eq(span[0] + ".. as x of " + letter, x.sign(x.make(letter, wide, b)),
            let(letter, put, in(1)));
        eq(span[0] + ".. as y of " + letter, x.sign(x.make(letter, b, wide)),
            let(letter, in(1), put));
      }
    }
    for (char letter : new char[] {'=', '<'}) {
      Pathwright x = fresh();
      int wide = span(x, 2, 2, BEYOND);
      eq("as it is, as x of " + letter, x.sign(x.make(letter, wide, x.input(1))),
          let(letter, x.sign(wide), in(1)));
      eq("as it is, as y of " + letter, x.sign(x.make(letter, x.input(1), wide)),
          let(letter, in(1), x.sign(wide)));
    }
    Pathwright x = fresh();
    int wide = span(x, 2, 0, MAX);
    int more = x.make('-', wide, x.number(MIN));
    long sign = x.sign(more);
    int b = x.input(1);
    eq("as c of a choice", x.sign(x.choose(x.make('-', more, x.number(0)), b, wide)),
        pick(wrap(32, sign), in(1), x.sign(wide)));
    eq("as x of a choice", x.sign(x.choose(b, more, b)), pick(in(1), sign, in(1)));
    eq("as y of a choice", x.sign(x.choose(b, b, more)), pick(in(1), in(1), sign));
    eq("in a narrowing", x.sign(x.narrow('s', 16, more)), cut(16, sign));
    Pathwright y = fresh();
    int n = great(y, BEYOND);
    eq("a number beyond", y.sign(y.make('-', n, y.input(0))), let('-', num(MIN), in(0)));
    eq("two numbers, one beyond", y.sign(y.make('/', n, y.number(2))), num(-1073741824));
    eq("two numbers, one below", y.sign(y.make('+', y.number(0), great(y, BELOW))), num(MAX));
    int nought = y.make('*', y.number(65536), y.number(65536));
    eq("a number that is narrowed to 0", y.sign(y.make('+', nought, y.input(0))), in(0));
    eq("two numbers beyond by <", y.sign(y.make('<', n, y.number(0))), num(0));
    eq("two numbers beyond by =", y.sign(y.make('=', n, y.number(MIN))), num(0));
  }

  private static boolean isSmall(char letter, long a, long b, long c, long d, long due) {
    Pathwright x = forSpans(a, b, c, d);
    int t = x.make(letter, span(x, 2, a, b), span(x, 3, c, d));
    return x.sign(t) == num(due) && x.size(t) == 1;
  }

  private static void smallByEquality() {
    says("Of two numbers, by a letter, comes the number; otherwise, by +");
    yes("= one apart", isSmall('=', -2, 3, 4, 9, 0));
    no("= at one number", isSmall('=', -2, 4, 4, 9, 0));
    yes("= one apart, the other way round", isSmall('=', 4, 9, -2, 3, 0));
    no("= at one number, the other way round", isSmall('=', 4, 9, -2, 4, 0));
    no("= within the other", isSmall('=', 4, 5, -2, 9, 0));
    yes("= far apart", isSmall('=', MIN, -1, 0, MAX, 0));
    no("= of the same reach of one number", isSmall('=', 5, 5, 5, 5, 1));
  }

  private static void smallByOrder() {
    yes("< one apart", isSmall('<', -2, 3, 4, 9, 1));
    no("< at one number", isSmall('<', -2, 4, 4, 9, 1));
    yes("< from the greatest on", isSmall('<', 4, 9, -2, 4, 0));
    no("< from one below the greatest on", isSmall('<', 3, 9, -2, 4, 0));
    yes("< far above", isSmall('<', 0, MAX, MIN, -1, 0));
    yes("< of the same reach of one number", isSmall('<', 5, 5, 5, 5, 0));
    no("< within", isSmall('<', -2, 9, 4, 5, 1));
  }

  /** What a letter makes of a term that is no number and of a number next to 0 or 1. */
  private static void smallByNumbers() {
    String[] firsts = {
      "+ -1:. 0:y 1:. 2:.", "- -1:. 0:. 1:. 2:.", "* -1:. 0:0 1:y 2:.", "/ -1:. 0:0 1:. 2:.",
      "% -1:. 0:0 1:. 2:.", "& -1:. 0:0 1:. 2:.", "| -1:. 0:y 1:. 2:.", "^ -1:. 0:y 1:. 2:."
    };
    String[] seconds = {
      "+ -1:. 0:x 1:. 2:.", "- -1:. 0:x 1:. 2:.", "* -1:. 0:0 1:x 2:.", "/ -1:. 0:. 1:x 2:.",
      "% -1:. 0:. 1:0 2:.", "& -1:. 0:0 1:. 2:.", "| -1:. 0:x 1:. 2:.", "^ -1:. 0:x 1:. 2:."
    };
    for (int i = 0; i < 8; i++) {
      numbersBeside(firsts[i], true);
      numbersBeside(seconds[i], false);
    }
    String[] same = {"+.", "-0", "*.", "/.", "%.", "&x", "|x", "^0", "=1", "<0"};
    for (String one : same) {
      Pathwright x = fresh();
      int a = x.input(0);
      char letter = one.charAt(0);
      char due = one.charAt(1);
      eq("both the same by " + letter, x.sign(x.make(letter, a, a)),
          due == 'x' ? in(0) : due == '.' ? let(letter, in(0), in(0)) : num(due - '0'));
    }
    Pathwright x = fresh();
    x.width(3, 0);
    int nought = x.input(3);
    int a = x.input(0);
    for (char letter : ARITHMETIC.toCharArray()) {
      eq("an input of no width is not the number 0: " + letter, x.sign(x.make(letter, nought, a)),
          let(letter, in(3), in(0)));
      eq("nor as y: " + letter, x.sign(x.make(letter, a, nought)), let(letter, in(0), in(3)));
    }
    eq("two numbers, though both are the same", fiveBy('-'), num(0));
    eq("two numbers, / by 0", fiveByNought('/'), num(0));
    eq("two numbers, % by 0", fiveByNought('%'), num(0));
  }

  private static long fiveBy(char letter) {
    Pathwright x = fresh();
    return x.sign(x.make(letter, x.number(5), x.number(5)));
  }

  private static long fiveByNought(char letter) {
    Pathwright x = fresh();
    return x.sign(x.make(letter, x.number(5), x.number(0)));
  }

  private static void numbersBeside(String told, boolean isFirst) {
    char letter = told.charAt(0);
    for (String one : told.substring(2).split(" ")) {
      int n = Integer.parseInt(one.split(":")[0]);
      char what = one.split(":")[1].charAt(0);
      Pathwright x = fresh();
      int a = x.input(0);
      int number = x.number(n);
      long got = x.sign(isFirst ? x.make(letter, number, a) : x.make(letter, a, number));
      long whole = isFirst ? let(letter, num(n), in(0)) : let(letter, in(0), num(n));
      eq((isFirst ? n + letter + "a" : "a" + letter + n), got,
          what == '.' ? whole : what == '0' ? num(0) : in(0));
    }
  }

  private static long chosen(long least, long greatest) {
    Pathwright x = forSpans(least, greatest, 0, 1);
    int c = span(x, 2, least, greatest);
    long got = x.sign(x.choose(c, x.input(0), x.input(1)));
    return got == pick(x.sign(c), in(0), in(1)) ? -1 : got == in(0) ? 0 : got == in(1) ? 1 : -2;
  }

  private static void smallChoices() {
    says("A choice whose c is a number is x or y; one whose x and y are the");
    Pathwright x = fresh();
    int a = x.input(0);
    int b = x.input(1);
    eq("by the number 0", x.sign(x.choose(x.number(0), a, b)), in(1));
    eq("by the number 1", x.sign(x.choose(x.number(1), a, b)), in(0));
    eq("by the number -1", x.sign(x.choose(x.number(-1), a, b)), in(0));
    eq("by a number of more digits", x.sign(x.choose(great(x, BEYOND), a, b)), in(0));
    eq("the same by c with 0", x.sign(x.choose(a, b, b)), in(1));
    eq("the same by 0", x.sign(x.choose(x.number(0), a, a)), in(0));
    eq("0 is its least", chosen(0, 5), -1);
    eq("0 is its greatest", chosen(-5, 0), -1);
    eq("0 is all", chosen(0, 0), -1);
    eq("1 is its least", chosen(1, 5), 0);
    eq("-1 is its greatest", chosen(-5, -1), 0);
    eq("0 is between", chosen(-1, 1), -1);
    says("Otherwise it is what it is made of.");
    eq("no number is put in for what is 0 alone", chosen(0, 0), -1);
    eq("no letter is turned", chosenBack('+'), let('+', num(2), in(0)));
    eq("nor gathered", x.sign(x.make('+', x.make('+', a, x.number(2)), x.number(3))),
        let('+', let('+', in(0), num(2)), num(3)));
  }

  private static long chosenBack(char letter) {
    Pathwright x = fresh();
    return x.sign(x.make(letter, x.number(2), x.input(0)));
  }

  private static String narrowedTo(char how, int bits, long least, long greatest) {
    Pathwright x = fresh();
    int t = span(x, 2, least, greatest);
    long got = x.sign(x.narrow(how, bits, t));
    long whole = how == 'w' ? wrap(bits, x.sign(t)) : cut(bits, x.sign(t));
    return got == x.sign(t) ? "itself" : got == whole ? "narrowed" : "?";
  }

  private static void smallNarrowed() {
    says("A term that is narrowed is itself if its reach is within the numbers");
    for (char how : new char[] {'w', 's'}) {
      eq(how + " all of 16", narrowedTo(how, 16, -32768, 32767), "itself");
      eq(how + " one above 16", narrowedTo(how, 16, -32768, 32768), "narrowed");
      eq(how + " one below 16", narrowedTo(how, 16, -32769, 32767), "narrowed");
      eq(how + " above 16 alone", narrowedTo(how, 16, 40000, 50000), "narrowed");
      eq(how + " below 16 alone", narrowedTo(how, 16, -50000, -40000), "narrowed");
      eq(how + " all of 32", narrowedTo(how, 32, MIN, MAX), "itself");
      eq(how + " one above 32", narrowedTo(how, 32, 2, BEYOND), "narrowed");
      eq(how + " one below 32", narrowedTo(how, 32, BELOW, -3), "narrowed");
      Pathwright x = fresh();
      eq(how + " a number", x.sign(x.narrow(how, 16, x.number(32768))),
          num(how == 'w' ? -32768 : 32767));
      eq(how + " a number within", x.sign(x.narrow(how, 16, x.number(-32768))), num(-32768));
      eq(how + " a great number", x.sign(x.narrow(how, 32, great(x, BEYOND))),
          num(how == 'w' ? MIN : MAX));
    }
  }

  private static void signs() {
    says("The sign of a term is a long, wrapped, with q being 1000003");
    Pathwright x = fresh();
    eq("number", x.sign(x.number(2)), 2000007L);
    eq("number below 0", x.sign(x.number(MIN)), -2147490090450943L);
    eq("input 0", x.sign(x.input(0)), 2L);
    int b = x.input(3);
    eq("input 3", x.sign(b), 3000011L);
    int sum = x.make('+', b, x.input(2));
    // + is 43: (43 q + 3000011) q + 2000008, and that q + 3, wrapped.
    long due = BigInteger.valueOf(43 * Q + 3000011).multiply(BigInteger.valueOf(Q))
        .add(BigInteger.valueOf(2000008)).multiply(BigInteger.valueOf(Q))
        .add(BigInteger.valueOf(3)).longValue();
    eq("letter, wrapped", x.sign(sum), due);
    int wide = x.make('*', x.make('*', b, x.number(MAX)), x.number(3));
    eq("choice, wrapped", x.sign(x.choose(b, sum, wide)), pick(in(3), due, x.sign(wide)));
    eq("wrapped to 16", x.sign(x.narrow('w', 16, wide)), wrap(16, x.sign(wide)));
    eq("wrapped to 32", x.sign(x.narrow('w', 32, wide)), wrap(32, x.sign(wide)));
    eq("cut to 16", x.sign(x.narrow('s', 16, wide)), cut(16, x.sign(wide)));
    eq("cut to 32", x.sign(x.narrow('s', 32, wide)), cut(32, x.sign(wide)));
    long least = -4611686016279904256L;
    int product = x.make('*', x.number(MIN), x.number(MAX));
    eq("a number that wraps", x.sign(product), BigInteger.valueOf(least)
        .multiply(BigInteger.valueOf(Q)).add(BigInteger.ONE).longValue());
    for (char letter : "+-*/%&|^=<".toCharArray()) {
      Pathwright y = fresh();
      eq("by " + letter, y.sign(y.make(letter, y.input(0), y.input(1))),
          let(letter, in(0), in(1)));
    }
  }

  private static void numbersOfTerms() {
    says("Terms are numbered from 0 as they are made, at most 24; one that is");
    Pathwright x = fresh();
    for (int n = 0; n < 24; n++) {
      eq("one by one", n % 2 == 0 ? x.number(7) : x.input(1), n);
    }
    eq("the last one", x.sign(23), in(1));
    raises("there is no 24", INDEX, x, () -> x.sign(24));
    raises("one more number", STATE, x, () -> x.number(7));
    raises("one more input", STATE, x, () -> x.input(1));
    raises("one more letter", STATE, x, () -> x.make('+', 0, 1));
    raises("one more choice", STATE, x, () -> x.choose(0, 0, 0));
    raises("one more narrowing", STATE, x, () -> x.narrow('w', 16, 0));
    eq("24 are there still", x.forget(), 24);
    for (int last = 0; last < 5; last++) {
      Pathwright y = fresh();
      for (int n = 0; n < 23; n++) {
        y.number(n);
      }
      int got = last == 0 ? y.number(0) : last == 1 ? y.input(0) : last == 2 ? y.make('<', 0, 1)
          : last == 3 ? y.choose(0, 1, 2) : y.narrow('s', 32, 22);
      eq("the last one, by " + last, got, 23);
    }
  }

  private static void termsMade() {
    says(8, "Makes a number.");
    Pathwright x = fresh();
    eq("the least", x.value(x.number(MIN), 0), MIN);
    eq("the greatest", x.value(x.number(MAX), 63), MAX);
    says(8, "Returns the number of the term.");
    eq("the first", fresh().number(5), 0);
    eq("the next", x.number(5), 2);
    says(10, "Returns the number of the term; if it is the same as one");
    Pathwright y = fresh();
    y.input(0);
    y.number(0);
    eq("it is its x", y.make('+', 0, 1), 2);
    eq("by both numbers", y.sign(2), y.sign(0));
    eq("once more", y.make('+', 0, 2), 3);
    eq("once more, alike", y.make('+', 2, 0), 4);
    eq("both have one sign", y.sign(4), y.sign(3));
    eq("they are one", y.sign(y.make('^', 3, 4)), num(0));
    says(13, "Takes all terms away.");
    y.forget();
    raises("none is left", INDEX, y, () -> y.size(0));
    eq("numbered from 0 again", y.number(9), 0);
    says(13, "Returns how many there were.");
    eq("one", y.forget(), 1);
    eq("none", y.forget(), 0);
    for (int n = 0; n < 24; n++) {
      y.number(1);
    }
    eq("24", y.forget(), 24);
  }

  private static void termsAsked() {
    says(14, "Returns how many unlike terms a term has in it, itself among them.");
    Pathwright x = fresh();
    eq("a number alone", x.size(x.number(1)), 1);
    eq("an input alone", x.size(x.input(3)), 1);
    eq("twice the same in it", x.size(x.make('*', 1, 1)), 2);
    int t = x.make('+', 1, 0);
    eq("one of two", x.size(t), 3);
    eq("a part counts once", x.size(x.make('*', t, 1)), 4);
    eq("a choice", x.size(x.choose(1, t, 0)), 4);
    int wide = x.make('*', 1, x.number(40000));
    eq("a narrowed one", x.size(x.narrow('w', 16, wide)), 4);
    eq("narrowed and cut are unlike",
        x.size(x.make('-', x.narrow('w', 16, wide), x.narrow('s', 16, wide))), 6);
    int more = x.make('*', x.make('*', x.input(0), x.number(MAX)), x.number(2));
    eq("what is narrowed ahead counts", x.size(x.make('&', more, 1)), 9);
    Pathwright chain = fresh();
    chain.input(0);
    for (int n = 1; n < 24; n++) {
      chain.make('+', n - 1, n - 1);
    }
    eq("the longest", chain.size(23), 24);
    says(16, "Returns an end of the reach of a term.");
    eq("least", chain.reach(1, 'l'), 0);
    eq("greatest", chain.reach(1, 'g'), 6);
    for (char end = 0; end < 300; end++) {
      char e = end;
      Pathwright y = fresh();
      y.input(0);
      if (e != 'l' && e != 'g') {
        raises("the end " + (int) e, ARGUMENT, y, () -> y.reach(0, e));
      }
    }
    says(17, "Returns the value of a term for a row.");
    eq("the first row", chain.value(0, 0), 0);
    eq("the last row", chain.value(0, 63), 3);
    raises("behind it", INDEX, chain, () -> chain.value(0, 64));
    raises("ahead of the first", INDEX, chain, () -> chain.value(0, -1));
    chain.fix(0, 2);
    eq("of a row that is not let", chain.value(0, 63), 3);
  }

  private static void rowsOfTerms() {
    says(18, "Returns the least row that is let for which a term is not 0.");
    Pathwright x = fresh();
    x.input(0);
    x.input(3);
    x.number(0);
    x.number(-1);
    eq("the first row", x.first(3), 0);
    int all = x.make('*', 1, x.make('*', x.input(2), x.make('=', x.number(3), x.input(1))));
    int last = x.make('*', all, x.make('=', 0, x.number(3)));
    eq("the last row", x.first(last), 63);
    x.fix(0, 2);
    eq("of those let", x.first(1), 34);
    eq("one that is below 0", x.first(x.make('-', 2, 0)), 2);
    says(18, "Returns the row, -1 if there is none.");
    eq("0 for all", x.first(2), -1);
    eq("not 0 for one that is not let", x.first(last), -1);
    x.fix(0, 3);
    eq("not 0 for the last, that is let", x.first(last), 63);
    says(19, "Returns for how many rows that are let a term is not 0.");
    eq("one", x.many(last), 1);
    eq("all that are let", x.many(0), 16);
    x.free(0);
    eq("all", x.many(3), 64);
    eq("half of them", x.many(1), 32);
    says(19, "Returns how many.");
    eq("none", x.many(2), 0);
    x.fix(3, 0);
    eq("none that is let", x.many(1), 0);
    x.free(3);
    says(20, "Returns the least row that is let for which two terms have unlike");
    eq("the first row", x.differ(2, 3), 0);
    eq("the last row", x.differ(2, last), 63);
    eq("the last row, the other way round", x.differ(last, 2), 63);
    x.fix(0, 1);
    eq("of those let", x.differ(1, 2), 33);
    says(20, "Returns the row, -1 if there is none.");
    eq("one and the same", x.differ(0, 0), -1);
    eq("unlike for none that is let", x.differ(last, 2), -1);
    eq("made unlike, alike in value", x.differ(x.make('*', 0, 0), 0), -1);
  }
}
