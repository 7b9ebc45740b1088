/** For each promise of the document: ordinary answers, its edges, and wrong arguments. */
public final class PromisesTest extends Due {
  public static void main(String[] args) {
    inputs();
    termsMade();
    termsMadeSmall();
    termsReached();
    termsAsked();
    programsBuilt();
    programsChecked();
    programsSet();
    texts();
    faultsOfTexts();
    walksEnd();
    walksReckon();
    walksCall();
    walksCountSteps();
    walksFork();
    walksCover();
    plainBlocks();
    pathsFound();
    pathsWithTerms();
    pathsOfRows();
    pathsMerged();
    goalsReached();
    goalsKept();
    goalsTried();
    goalsShrunk();
    programsUnlike();
    theorem();
    System.out.println(asked + " answers, " + wrong + " wrong");
    System.exit(wrong == 0 ? 0 : 1);
  }

  // ---- promises 1 to 7

  private static void inputs() {
    Pathwright x = fresh();
    eq("1: checksum", x.checksum(), sum(2, -1, 2, -1, 1, -1, 1, -1, 0,
        0, 'w', 4, 80, 6, 0, 0, 'w', 4, 80, 6, 0, 0, 0));
    eq("1: terms", x.forget(), 0);
    eq("1: statements", x.count(0) + x.count(1), 0);
    eq("1: kept", x.unkeep(), 0);
    eq("1: typed", x.erase(), 0);
    no("1: merges 0", x.merge(0, false));
    no("1: merges 1", x.merge(1, false));
    eq("5: rows", x.rows(), 64);
    eq("6: part 0", x.part(0b1_0_10_01, 0), 1);
    eq("6: part 1", x.part(0b1_0_10_01, 1), 2);
    eq("6: part 2", x.part(0b1_0_10_01, 2), 0);
    eq("6: part 3", x.part(0b1_0_10_01, 3), 1);
    raises("6: row -1", INDEX, x, () -> fresh().part(-1, 0));
    raises("6: row 64", INDEX, x, () -> x.part(64, 0));
    raises("6: input 4", INDEX, x, () -> x.part(0, 4));
    raises("6: input -1", INDEX, x, () -> x.part(0, -1));

    eq("2: narrower", x.width(0, 0), 16);
    eq("2: same", x.width(3, 1), 16);
    eq("2: wider", x.width(1, 4), 64);
    eq("5: rows", x.rows(), 64);
    eq("6: part of no width", x.part(63, 0), 0);
    eq("6: part of 4 digits", x.part(63, 1), 15);
    raises("2: input -1", INDEX, x, () -> x.width(-1, 0));
    raises("2: input 4, width 5", INDEX, x, () -> x.width(4, 5));
    raises("2: width 5", ARGUMENT, x, () -> x.width(0, 5));
    raises("2: width -1", ARGUMENT, x, () -> x.width(0, -1));
    raises("2: all above 6", STATE, x, () -> x.width(0, 1));
    for (int k = 0; k < 4; k++) {
      x.width(k, 0);
    }
    eq("5: one row", x.rows(), 1);
    yes("7: it is let", x.isLet(0));
    raises("7: row 1", INDEX, x, () -> x.isLet(1));

    Pathwright y = fresh();
    eq("3: fix", y.fix(0, 3), 16);
    eq("3: another", y.fix(2, 1), 8);
    eq("3: in place", y.fix(0, 1), 8);
    yes("7: let", y.isLet(0b0_1_00_01));
    no("7: not let", y.isLet(0b0_1_00_11));
    no("7: not let either", y.isLet(0b0_0_00_01));
    raises("7: row -1", INDEX, y, () -> y.isLet(-1));
    eq("63: fixed", y.checksum(), sum(2, 1, 2, -1, 1, 1, 1, -1, 0,
        0, 'w', 4, 80, 6, 0, 0, 'w', 4, 80, 6, 0, 0, 0));
    raises("3: input 4", INDEX, y, () -> y.fix(4, 9));
    raises("3: input -1", INDEX, y, () -> y.fix(-1, 0));
    raises("3: value 4", ARGUMENT, y, () -> y.fix(0, 4));
    raises("3: value -1", ARGUMENT, y, () -> y.fix(0, -1));
    raises("3: value 2 of one digit", ARGUMENT, y, () -> y.fix(3, 2));
    eq("4: free", y.free(0), 32);
    eq("4: free again", y.free(0), 32);
    eq("4: the other", y.free(2), 64);
    raises("4: input 4", INDEX, y, () -> y.free(4));
    raises("4: input -1", INDEX, y, () -> y.free(-1));
    y.fix(0, 3);
    y.width(0, 2);
    yes("2: free then", y.isLet(0));
    y.width(1, 0);
    eq("3: of no width", y.fix(1, 0), 16);
    raises("3: of no width 1", ARGUMENT, y, () -> y.fix(1, 1));
    widthsTakeAway();
  }

  private static void widthsTakeAway() {
    Pathwright x = fresh();
    x.number(7);
    x.input(1);
    x.number(8);
    x.input(0);
    x.make('+', 2, 3);
    x.keep(63);
    x.keep(15);
    x.keep(16);
    x.type('k', '0', '#', '#');
    x.width(3, 1);
    eq("2: terms without it stay", x.size(4), 3);
    x.width(0, 1);
    eq("2: kept rows stay that are there", x.kept(0), 15);
    eq("2: in their order", x.kept(1), 16);
    raises("2: one is gone", INDEX, x, () -> x.kept(2));
    eq("2: what is typed stays", x.erase(), 2);
    raises("2: terms from its first on are gone", INDEX, x, () -> x.size(3));
    eq("2: those ahead stay", x.sign(2), num(8));
    eq("2: numbers go on", x.input(0), 3);
    eq("2: with the new reach", x.reach(3, 'g'), 1);
    x.width(1, 2);
    eq("2: the first one decides", x.forget(), 1);
  }

  // ---- promises 8 to 20

  private static void termsMade() {
    Pathwright x = fresh();
    eq("8: number", x.number(MIN), 0);
    eq("8: again", x.number(MIN), 1);
    eq("15: of a number", x.sign(0), num(MIN));
    eq("9: input", x.input(3), 2);
    eq("15: of an input", x.sign(2), in(3));
    eq("10: make", x.make('<', 2, 1), 3);
    eq("15: it is small", x.sign(3), num(0));
    x.input(0);
    eq("10: make", x.make('*', 2, 4), 5);
    eq("15: of a letter", x.sign(5), let('*', in(3), in(0)));
    eq("10: likewise", x.make('*', 2, 4), 6);
    eq("15: the same", x.sign(6), x.sign(5));
    eq("11: choose", x.choose(4, 2, 5), 7);
    eq("15: of a choice", x.sign(7), pick(in(0), in(3), x.sign(5)));
    eq("12: narrow", x.narrow('w', 16, 4), 8);
    eq("15: within already", x.sign(8), in(0));
    x.number(70000);
    x.make('+', 4, 9);
    eq("12: wrapped", x.narrow('w', 16, 10), 11);
    eq("15: of wrapped", x.sign(11), wrap(16, let('+', in(0), num(70000))));
    eq("12: cut", x.narrow('s', 16, 10), 12);
    eq("15: of cut", x.sign(12), cut(16, let('+', in(0), num(70000))));
    raises("10: x", INDEX, x, () -> x.make('!', 13, 0));
    raises("10: y", INDEX, x, () -> x.make('+', 0, -1));
    raises("10: letter", ARGUMENT, x, () -> x.make('k', 0, 0));
    raises("11: c", INDEX, x, () -> x.choose(13, 0, 0));
    raises("11: x", INDEX, x, () -> x.choose(0, -1, 0));
    raises("11: y", INDEX, x, () -> x.choose(0, 0, MAX));
    raises("12: x", INDEX, x, () -> x.narrow('w', 8, 13));
    raises("12: how", ARGUMENT, x, () -> x.narrow('t', 16, 0));
    raises("12: digits", ARGUMENT, x, () -> x.narrow('w', 17, 0));
    raises("9: input 4", INDEX, x, () -> x.input(4));
    raises("9: input -1", INDEX, x, () -> x.input(-1));
    for (int i = 13; i < 24; i++) {
      x.number(i);
    }
    raises("8: 24 terms", STATE, x, () -> x.number(0));
    raises("9: 24 terms", STATE, x, () -> x.input(0));
    raises("9: no input ahead", INDEX, x, () -> x.input(4));
    raises("10: 24 terms", STATE, x, () -> x.make('+', 0, 0));
    raises("10: no letter ahead", ARGUMENT, x, () -> x.make('!', 0, 0));
    raises("11: 24 terms", STATE, x, () -> x.choose(0, 0, 0));
    raises("12: 24 terms", STATE, x, () -> x.narrow('w', 16, 0));
    raises("12: no how ahead", ARGUMENT, x, () -> x.narrow('x', 16, 0));
    eq("13: forget", x.forget(), 24);
    eq("13: none are left", x.forget(), 0);
    eq("8: from 0 again", x.number(1), 0);
    raises("14: none", INDEX, fresh(), () -> fresh().size(0));
  }

  /** What comes of a letter and terms; a is input 0, b input 1, and numbers are themselves. */
  private static long made(char letter, String one, String other) {
    Pathwright x = fresh();
    int a = one.equals("a") ? x.input(0) : one.equals("b") ? x.input(1)
        : x.number(Integer.parseInt(one));
    int b = other.equals("a") ? x.input(0) : other.equals("b") ? x.input(1)
        : x.number(Integer.parseInt(other));
    return x.sign(x.make(letter, a, b));
  }

  private static void termsMadeSmall() {
    long a = in(0);
    eq("10: two numbers", made('-', "3", "5"), num(-2));
    eq("10: two great ones", made('*', "2147483647", "2147483647"), num(4611686014132420609L));
    eq("10: / cut", made('/', "-7", "2"), num(-3));
    eq("10: / by 0", made('/', "-7", "0"), num(0));
    eq("10: % sign", made('%', "-7", "2"), num(-1));
    eq("10: % by 0", made('%', "7", "0"), num(0));
    eq("10: % sign of the first", made('%', "7", "-4"), num(3));
    eq("10: &", made('&', "-4", "7"), num(4));
    eq("10: |", made('|', "-4", "1"), num(-3));
    eq("10: ^", made('^', "-1", "5"), num(-6));
    eq("10: =", made('=', "5", "5"), num(1));
    eq("10: = not", made('=', "5", "6"), num(0));
    eq("10: <", made('<', "-5", "5"), num(1));
    eq("10: < not", made('<', "5", "5"), num(0));
    String[][] smalls = {
      {"+", "0", "a", "a"}, {"+", "a", "0", "a"}, {"+", "a", "a", ""}, {"+", "1", "a", ""},
      {"-", "a", "0", "a"}, {"-", "0", "a", ""}, {"-", "a", "a", "0"},
      {"*", "0", "a", "0"}, {"*", "a", "0", "0"}, {"*", "1", "a", "a"}, {"*", "a", "1", "a"},
      {"*", "a", "a", ""}, {"*", "a", "-1", ""},
      {"/", "0", "a", "0"}, {"/", "a", "1", "a"}, {"/", "a", "0", ""}, {"/", "1", "a", ""},
      {"/", "a", "a", ""},
      {"%", "0", "a", "0"}, {"%", "a", "1", "0"}, {"%", "a", "0", ""}, {"%", "1", "a", ""},
      {"%", "a", "a", ""},
      {"&", "0", "a", "0"}, {"&", "a", "0", "0"}, {"&", "a", "a", "a"}, {"&", "1", "a", ""},
      {"&", "a", "-1", ""},
      {"|", "0", "a", "a"}, {"|", "a", "0", "a"}, {"|", "a", "a", "a"}, {"|", "1", "a", ""},
      {"^", "0", "a", "a"}, {"^", "a", "0", "a"}, {"^", "a", "a", "0"}, {"^", "a", "1", ""},
      {"=", "a", "a", "1"}, {"=", "a", "4", "0"}, {"=", "-1", "a", "0"}, {"=", "a", "3", ""},
      {"=", "0", "a", ""}, {"=", "a", "b", ""},
      {"<", "a", "a", "0"}, {"<", "a", "4", "1"}, {"<", "a", "3", ""}, {"<", "-1", "a", "1"},
      {"<", "0", "a", ""}, {"<", "a", "0", "0"}, {"<", "3", "a", "0"}, {"<", "2", "a", ""},
      {"<", "a", "1", ""}, {"<", "a", "b", ""},
    };
    for (String[] s : smalls) {
      char c = s[0].charAt(0);
      long one = s[1].equals("a") ? a : num(Long.parseLong(s[1]));
      long other = s[2].equals("a") ? a : s[2].equals("b") ? in(1) : num(Long.parseLong(s[2]));
      long due = s[3].equals("a") ? a : s[3].isEmpty() ? let(c, one, other)
          : num(Long.parseLong(s[3]));
      eq("10: " + s[1] + " " + c + " " + s[2], made(c, s[1], s[2]), due);
    }
    termsNarrowed();
    Pathwright x = fresh();
    x.input(0);
    x.input(1);
    x.number(0);
    x.number(-9);
    x.number(1);
    x.make('+', 0, 4);
    x.make('-', 3, 0);
    eq("11: c is a number", x.sign(x.choose(3, 0, 1)), in(0));
    eq("11: c is 0", x.sign(x.choose(2, 0, 1)), in(1));
    eq("11: both the same", x.sign(x.choose(0, 1, 1)), in(1));
    eq("11: c is above 0", x.sign(x.choose(5, 1, 0)), in(1));
    eq("11: c is below 0", x.sign(x.choose(6, 1, 0)), in(1));
    eq("11: c can be 0", x.sign(x.choose(0, 1, 0)), pick(in(0), in(1), in(0)));
  }

  private static void termsNarrowed() {
    Pathwright x = fresh();
    x.input(0);
    x.number(MAX);
    x.make('+', 0, 1);
    long great = let('+', in(0), num(MAX));
    eq("15: great", x.sign(2), great);
    eq("10: narrowed first", x.sign(x.make('+', 2, 0)), let('+', wrap(32, great), in(0)));
    eq("10: as second, too", x.sign(x.make('|', 0, 2)), let('|', in(0), wrap(32, great)));
    eq("10: not into =", x.sign(x.make('=', 2, 1)), let('=', great, num(MAX)));
    eq("10: not into <", x.sign(x.make('<', 1, 2)), let('<', num(MAX), great));
    eq("11: not into a choice", x.sign(x.choose(0, 2, 0)), pick(in(0), great, in(0)));
    eq("12: not into a narrowing", x.sign(x.narrow('s', 16, 2)), cut(16, great));
    x.number(0);
    eq("10: narrowed, then small", x.sign(x.make('+', 2, 9)), wrap(32, great));
    x.make('*', 1, 1);
    eq("10: a great number", x.sign(11), num(4611686014132420609L));
    eq("10: a narrowed number", x.sign(x.make('+', 11, 11)), num(2));
    eq("12: wrapped number", x.sign(x.narrow('w', 16, 11)), num(1));
    eq("12: cut number", x.sign(x.narrow('s', 16, 11)), num(32767));
    eq("12: cut to 32", x.sign(x.narrow('s', 32, 11)), num(MAX));
    x.number(-40000);
    eq("12: cut below 0", x.sign(x.narrow('s', 16, 16)), num(-32768));
    eq("12: wrapped below 0", x.sign(x.narrow('w', 16, 16)), num(25536));
    x.number(32768);
    eq("12: wrapped to below 0", x.sign(x.narrow('w', 16, 19)), num(-32768));
  }

  private static void reach(String what, long least, long greatest, char c, int[] one, int[] two) {
    Pathwright x = fresh();
    int[] made = new int[2];
    for (int i = 0; i < 2; i++) {
      int[] told = i == 0 ? one : two;
      // An input of two digits times a number, and a number more: told[0] to told[0] + 3 told[1].
      int term = x.make('*', x.input(i), x.number(told[1]));
      made[i] = x.make('+', term, x.number(told[0]));
    }
    int t = x.make(c, made[0], made[1]);
    eq("16: least of " + what, x.reach(t, 'l'), least);
    eq("16: greatest of " + what, x.reach(t, 'g'), greatest);
  }

  private static void termsReached() {
    int[] up = {1, 3};
    int[] down = {-9, 2};
    int[] both = {-5, 4};
    reach("+", -8, 7, '+', up, down);
    reach("-", 4, 19, '-', up, down);
    reach("- likewise", -19, -4, '-', down, up);
    reach("*", -90, -3, '*', up, down);
    reach("* both ways", -50, 70, '*', both, up);
    reach("* both below", -63, 45, '*', both, down);
    reach("* of squares", -35, 49, '*', both, both);
    reach("* both up", 12, 63, '*', new int[] {3, 2}, new int[] {4, 1});
    reach("* both down", 25, 88, '*', new int[] {-11, 2}, new int[] {-8, 1});
    reach("/ both up", 0, 10, '/', up, new int[] {0, 2});
    reach("/ down", -9, 9, '/', down, up);
    reach("/ by down", -10, 10, '/', up, down);
    reach("/ both ways", -7, 7, '/', both, up);
    reach("% by up", 0, 6, '%', up, both);
    reach("% lesser", 0, 8, '%', up, down);
    reach("% down", -9, 9, '%', down, up);
    reach("% small first", 0, 3, '%', new int[] {0, 1}, new int[] {1, 9});
    reach("& up", 0, 6, '&', up, new int[] {3, 1});
    reach("& first up", 0, 10, '&', up, down);
    reach("& second up", 0, 10, '&', both, up);
    reach("& both down", MIN, MAX, '&', down, both);
    reach("| up", 0, 15, '|', up, new int[] {3, 1});
    reach("| at its edge", 0, 7, '|', new int[] {4, 1}, new int[] {1, 1});
    reach("| beyond", 0, 15, '|', new int[] {5, 1}, new int[] {1, 1});
    reach("| down", MIN, MAX, '|', up, down);
    reach("^ up", 0, 15, '^', new int[] {3, 1}, up);
    reach("^ down", MIN, MAX, '^', down, up);
    reach("=", 0, 1, '=', up, both);
    reach("<", 0, 1, '<', both, up);
    Pathwright x = fresh();
    x.width(3, 0);
    x.input(3);
    x.number(-7);
    x.input(0);
    eq("16: of no width", x.reach(0, 'g'), 0);
    eq("16: of a number", x.reach(1, 'l'), -7);
    eq("16: of a number", x.reach(1, 'g'), -7);
    eq("16: of an input", x.reach(2, 'l'), 0);
    eq("16: of an input", x.reach(2, 'g'), 3);
    x.make('%', 2, 0);
    eq("16: % of 0", x.reach(3, 'g'), 0);
    reachesOfNought();
    x.choose(2, 1, 2);
    eq("16: of a choice", x.reach(4, 'l'), -7);
    eq("16: of a choice", x.reach(4, 'g'), 3);
    x.number(40000);
    x.make('*', 2, 5);
    x.narrow('s', 16, 6);
    eq("16: of 16 digits", x.reach(7, 'l'), -32768);
    eq("16: of 16 digits", x.reach(7, 'g'), 32767);
    x.make('*', 6, 5);
    x.narrow('w', 32, 8);
    eq("16: of 32 digits", x.reach(9, 'l'), MIN);
    eq("16: of 32 digits", x.reach(9, 'g'), MAX);
    raises("16: no term", INDEX, x, () -> x.reach(10, 'x'));
    raises("16: no end", ARGUMENT, x, () -> x.reach(0, 'x'));
  }

  /** An input of no width is no number, but its reach is 0 alone. */
  private static void reachesOfNought() {
    Pathwright x = fresh();
    x.width(0, 0);
    x.width(3, 0);
    x.input(0);
    x.input(3);
    x.input(1);
    x.number(-2);
    x.make('+', 2, 3);
    x.make('%', 4, 0);
    x.make('|', 0, 1);
    x.make('^', 2, 1);
    eq("16: % of 0, below", x.reach(5, 'l'), 0);
    eq("16: % of 0, above", x.reach(5, 'g'), 0);
    eq("15: but no number", x.sign(5), let('%', let('+', in(1), num(-2)), in(0)));
    eq("16: | of 0", x.reach(6, 'g'), 0);
    eq("16: ^ of 0", x.reach(7, 'g'), 3);
    eq("10: = of both", x.sign(x.make('=', 0, 1)), let('=', in(0), in(3)));
    eq("10: < of both", x.sign(x.make('<', 0, 1)), num(0));
  }

  private static void termsAsked() {
    Pathwright x = fresh();
    x.input(0);
    x.input(1);
    x.make('+', 0, 1);
    x.make('*', 2, 2);
    x.make('<', 3, 0);
    x.choose(4, 3, 2);
    eq("14: of an input", x.size(0), 1);
    eq("14: a term twice in it counts once", x.size(3), 4);
    eq("14: of a choice", x.size(5), 6);
    x.number(100000);
    x.make('*', 2, 6);
    x.narrow('w', 16, 7);
    x.make('/', 8, 0);
    eq("14: of a narrowed one", x.size(8), 6);
    int row = 0b0_0_11_10;
    eq("17: input", x.value(1, row), 3);
    eq("17: +", x.value(2, row), 5);
    eq("17: *", x.value(3, row), 25);
    eq("17: <", x.value(4, row), 0);
    eq("17: choice", x.value(5, row), 5);
    eq("17: the other side", x.value(5, 0), 0);
    eq("17: exact", x.value(7, row), 500000);
    eq("17: wrapped", x.value(8, row), -24288);
    eq("17: / cut", x.value(9, row), -12144);
    eq("17: / by 0", x.value(9, 0b0_0_11_00), 0);
    eq("18: first", x.first(2), 1);
    eq("19: many", x.many(2), 60);
    eq("20: differ", x.differ(2, 0), 4);
    eq("20: nowhere", x.differ(2, 2), -1);
    eq("20: likewise", x.differ(3, 2), 2);
    x.fix(0, 0);
    eq("18: of those let", x.first(2), 4);
    eq("19: of those let", x.many(2), 12);
    eq("17: fixed or not", x.value(0, 3), 3);
    x.fix(1, 0);
    eq("18: none", x.first(2), -1);
    eq("19: none", x.many(2), 0);
    eq("20: none", x.differ(0, 1), -1);
    eq("16: fixed or not", x.reach(0, 'g'), 3);
    eq("9: fixed or not", x.sign(x.input(0)), in(0));
    raises("14: no term", INDEX, x, () -> x.size(-1));
    raises("15: no term", INDEX, x, () -> x.sign(11));
    raises("17: no term", INDEX, x, () -> x.value(11, 0));
    raises("17: no row", INDEX, x, () -> x.value(0, 64));
    raises("18: no term", INDEX, x, () -> x.first(11));
    raises("19: no term", INDEX, x, () -> x.many(-1));
    raises("20: no x", INDEX, x, () -> x.differ(11, 0));
    raises("20: no y", INDEX, x, () -> x.differ(0, 11));
  }

  // ---- promises 21 to 31

  private static void programsBuilt() {
    Pathwright x = fresh();
    put(x, 0, EVERY);
    eq("27: count", x.count(0), 27);
    eq("27: of the other", x.count(1), 0);
    eq("28: letter", x.look(0, 15, 0), 'f');
    eq("28: x", x.look(0, 15, 1), 1);
    eq("28: y", x.look(0, 15, 2), 1);
    eq("28: z", x.look(0, 15, 3), 2);
    eq("21: add", x.add(1, 'o', 7, 99, -99), 1);
    eq("28: what it does not have is 0", x.look(1, 0, 2), 0);
    eq("28: nor a z", x.look(1, 0, 3), 0);
    x.add(1, '.', 5, 6, 7);
    eq("28: . has none", x.look(1, 1, 1), 0);
    raises("28: program", INDEX, x, () -> x.look(2, 0, 0));
    raises("28: statement", INDEX, x, () -> x.look(1, 2, 0));
    raises("28: which", INDEX, x, () -> x.look(1, 1, 4));
    raises("28: which -1", INDEX, x, () -> x.look(1, 1, -1));
    raises("21: program", INDEX, x, () -> x.add(-1, '!', 0, 0, 0));
    raises("21: letter", ARGUMENT, x, () -> x.add(0, '!', 0, 0, 0));
    String out = "k8,0 k-1,0 k0,32768 k0,-32769 i8,0 i0,4 m0,8 m8,0 +8,0,0 -0,8,0 *0,0,8 /0,0,-1"
        + " g8,0 g0,8 s8,0 s0,8 f8,0,0 f0,2,0 f0,0,3 p2,0,0 p0,3,0 p0,0,8 r2,0 r0,2 a8 o-1 ?8 w8"
        + " d3 d-1 x8,0,0 x0,3,0 x0,0,8 v8";
    for (String one : out.split(" ")) {
      raises("21: " + one, ARGUMENT, x, () -> put(x, 0, one));
    }
    put(x, 0, "k7,32767;k7,-32768;i7,3;f7,1,2;p1,2,7;r1,1;d2;x7,2,7;");
    while (x.count(0) < 40) {
      x.add(0, 'a', 0, 0, 0);
    }
    raises("21: 41 statements", STATE, x, () -> x.add(0, 'a', 0, 0, 0));
    raises("21: letter ahead", ARGUMENT, x, () -> x.add(0, '!', 0, 0, 0));
    raises("23: 41 statements", STATE, x, () -> x.insert(0, 0, 0));
    raises("23: statement ahead", INDEX, x, () -> x.insert(0, 41, 0));
    raises("27: program", INDEX, x, () -> x.count(2));
    raises("25: program", INDEX, x, () -> x.clear(-1));
    raises("26: program", INDEX, x, () -> x.copy(2));
    x.way(0, 's');
    x.limit(0, 'r', 6);
    eq("25: clear", x.clear(0), 40);
    eq("25: nothing left", x.clear(0), 0);
    eq("25: the way stays", x.way(0, 'w'), 's');
    eq("25: limits stay", x.limit(0, 'r', 5), 6);
    programsChanged();
  }

  private static void programsChanged() {
    Pathwright x = with("k1,5;o2;f3,1,0;:;");
    eq("22: set", x.set(0, 0, 1, -9), 5);
    eq("22: it is set", x.look(0, 0, 2), -9);
    eq("22: x", x.set(0, 1, 0, 7), 2);
    eq("22: z", x.set(0, 2, 2, 2), 0);
    raises("22: program", INDEX, x, () -> x.set(2, 0, 0, 0));
    raises("22: statement", INDEX, x, () -> x.set(0, 4, 0, 0));
    raises("22: which", INDEX, x, () -> x.set(0, 0, 3, 0));
    raises("22: which -1", INDEX, x, () -> x.set(0, 0, -1, 0));
    raises("22: it does not have it", ARGUMENT, x, () -> x.set(0, 0, 2, 0));
    raises("22: : has none", ARGUMENT, x, () -> x.set(0, 3, 0, 0));
    raises("22: value", ARGUMENT, x, () -> x.set(0, 2, 1, 2));
    eq("23: insert", x.insert(0, 0, 2), 5);
    eq("23: ahead", textOf(x, 0).equals("f3,1,2;k1,-9;o7;f3,1,2;:;") ? 1 : 0, 1);
    eq("23: behind all", x.insert(0, 5, 1), 6);
    eq("23: in the middle, of one behind", x.insert(0, 2, 4), 7);
    yes("23: all", textOf(x, 0).equals("f3,1,2;k1,-9;:;o7;f3,1,2;:;k1,-9;"));
    raises("23: program", INDEX, x, () -> x.insert(2, 0, 0));
    raises("23: s", INDEX, x, () -> x.insert(0, 8, 0));
    raises("23: s -1", INDEX, x, () -> x.insert(0, -1, 0));
    raises("23: from", INDEX, x, () -> x.insert(0, 0, 7));
    raises("23: from -1", INDEX, x, () -> x.insert(0, 0, -1));
    raises("23: nothing to be like", INDEX, x, () -> x.insert(1, 0, 0));
    eq("24: drop", x.drop(0, 2), 6);
    yes("24: those behind move", textOf(x, 0).equals("f3,1,2;k1,-9;o7;f3,1,2;:;k1,-9;"));
    eq("24: the last one", x.drop(0, 5), 5);
    eq("24: the first one", x.drop(0, 0), 4);
    yes("24: all", textOf(x, 0).equals("k1,-9;o7;f3,1,2;:;"));
    raises("24: program", INDEX, x, () -> x.drop(-1, 0));
    raises("24: statement", INDEX, x, () -> x.drop(0, 4));
    raises("24: none", INDEX, x, () -> x.drop(1, 0));
    x.way(0, 't');
    x.limit(0, 'r', 1);
    x.limit(0, 's', 11);
    x.limit(0, 'b', 0);
    x.merge(0, true);
    x.add(1, 'o', 0, 0, 0);
    eq("26: copy", x.copy(0), 4);
    yes("26: statements", textOf(x, 1).equals("k1,-9;o7;f3,1,2;:;"));
    eq("26: way", x.way(1, 't'), 't');
    eq("26: row", x.limit(1, 'r', 1), 1);
    eq("26: steps", x.limit(1, 's', 11), 11);
    eq("26: bound", x.limit(1, 'b', 0), 0);
    yes("26: merges", x.merge(1, true));
    x.set(1, 0, 1, 3);
    eq("26: each its own", x.look(0, 0, 2), -9);
    x.clear(1);
    x.copy(1);
    eq("26: the other way round", x.count(0), 0);
  }

  private static void whole(String text, int due) {
    eq("29: " + text, with(text).check(0), due);
  }

  private static void programsChecked() {
    whole("", -1);
    whole("k0,0;", -1);
    whole("?0;:;.;", -1);
    whole("?0;.;w0;.;d0;.;", -1);
    whole(":;", 0);
    whole("k0,0;.;", 1);
    whole("?0;", 1);
    whole("?0;w0;.;", 3);
    whole("?0;:;:;.;", 2);
    whole("w0;:;.;", 1);
    whole("d0;:;.;", 1);
    whole("?0;w0;:;.;.;", 2);
    whole("?0;:;w0;.;:;.;", 4);
    whole("?0;?1;:;.;:;.;", -1);
    whole("d0;d1;.;.;", 1);
    whole("?0;d1;.;.;", 1);
    whole("d0;.;d1;.;d2;.;", -1);
    whole("d0;.;d1;.;d0;.;", 4);
    whole("x0,0,0;", 0);
    whole("x0,1,0;d1;.;", -1);
    whole("d1;x0,1,0;.;", -1);
    whole("d1;.;x0,2,0;", 2);
    whole("?0;?0;?0;?0;?0;?0;.;.;.;.;.;.;", -1);
    whole("?0;?0;?0;?0;?0;?0;?0;.;.;.;.;.;.;.;", 6);
    whole("d0;w0;?0;w0;?0;w0;w0;.;.;.;.;.;.;.;", 6);
    whole("d0;w0;?0;w0;?0;w0;.;.;.;.;.;.;", -1);
    Pathwright x = with("x0,1,0;d0;.;");
    eq("29: before", x.check(0), 0);
    x.set(0, 1, 0, 1);
    eq("29: after it was set", x.check(0), -1);
    x.drop(0, 2);
    eq("29: after it was dropped", x.check(0), 2);
    x.insert(0, 2, 1);
    eq("29: after it was inserted", x.check(0), 2);
    x.clear(0);
    eq("29: after all were cleared", x.check(0), -1);
    put(x, 1, ":;");
    x.copy(1);
    eq("29: after it was copied", x.check(0), 0);
    raises("29: program", INDEX, x, () -> x.check(2));
  }

  private static void programsSet() {
    Pathwright x = fresh();
    eq("30: way", x.way(1, 's'), 'w');
    eq("30: again", x.way(1, 't'), 's');
    eq("30: the other one", x.way(0, 'w'), 'w');
    raises("30: program", INDEX, x, () -> x.way(2, 'x'));
    raises("30: way", ARGUMENT, x, () -> x.way(0, 'e'));
    eq("31: row", x.limit(0, 'r', 6), 4);
    eq("31: row", x.limit(0, 'r', 1), 6);
    eq("31: steps", x.limit(0, 's', 120), 80);
    eq("31: steps", x.limit(0, 's', 10), 120);
    eq("31: bound", x.limit(0, 'b', 12), 6);
    eq("31: bound", x.limit(0, 'b', 0), 12);
    eq("31: the other one", x.limit(1, 's', 80), 80);
    raises("31: program", INDEX, x, () -> x.limit(-1, 'x', 1));
    raises("31: what", ARGUMENT, x, () -> x.limit(0, 'w', 10));
    raises("31: row 0", ARGUMENT, x, () -> x.limit(0, 'r', 0));
    raises("31: row 7", ARGUMENT, x, () -> x.limit(0, 'r', 7));
    raises("31: steps 9", ARGUMENT, x, () -> x.limit(0, 's', 9));
    raises("31: steps 121", ARGUMENT, x, () -> x.limit(0, 's', 121));
    raises("31: bound -1", ARGUMENT, x, () -> x.limit(0, 'b', -1));
    raises("31: bound 13", ARGUMENT, x, () -> x.limit(0, 'b', 13));
  }

  // ---- promises 32 to 35

  private static void texts() {
    Pathwright x = fresh();
    eq("32: all four", x.type('k', '0', ',', '-'), 4);
    eq("32: # is none", x.type('#', '7', '#', ';'), 6);
    eq("32: nor those above 255", x.type((char) 256, 'o', (char) 65535, '0'), 8);
    eq("32: none", x.type('#', '#', '#', '#'), 8);
    eq("34: not at its end", x.read(0), -9);
    eq("32: one", x.type('#', '#', '#', ';'), 9);
    eq("34: read", x.read(0), 2);
    yes("35: written", textOf(x, 0).equals("k0,-7;o0;"));
    eq("35: -1", x.written(0, -1), -1);
    eq("35: far", x.written(0, MAX), -1);
    eq("35: nothing", x.written(1, 0), -1);
    raises("35: program", INDEX, x, () -> x.written(2, 0));
    raises("34: program", INDEX, x, () -> x.read(-1));
    eq("34: the letters stay", x.erase(), 9);
    eq("33: none are left", x.erase(), 0);
    eq("34: no text is one", x.read(0), 0);
    eq("34: in place of all", x.count(0), 0);
    eq("32: 0 and 255", x.type((char) 0, (char) 255, '#', '#'), 2);
    eq("63: typed", x.checksum(), sum(2, -1, 2, -1, 1, -1, 1, -1, 0,
        0, 'w', 4, 80, 6, 0, 0, 'w', 4, 80, 6, 0, 0, 2, 0, 255));
    for (int i = 0; i < 59; i++) {
      x.type(':', ';', ':', ';');
    }
    raises("32: 241 and more", STATE, x, () -> x.type('a', 'b', 'c', '#'));
    eq("32: 240", x.type('a', '#', '#', 'c'), 240);
    eq("32: 240 and none", x.type('#', '#', '#', '#'), 240);
    raises("32: 241", STATE, x, () -> x.type('#', '#', '#', 'a'));
    eq("33: erase", x.erase(), 240);
    Pathwright y = with(EVERY);
    typeAll(y, EVERY);
    eq("34: every letter", y.read(1), 27);
    yes("35: every letter", textOf(y, 1).equals(EVERY));
    y.way(1, 's');
    y.limit(1, 'r', 2);
    y.read(1);
    eq("34: the way stays", y.way(1, 'w'), 's');
    eq("34: limits stay", y.limit(1, 'r', 4), 2);
  }

  private static void fault(String text, int due) {
    Pathwright x = with("o3;");
    typeAll(x, text);
    long before = x.checksum();
    eq("34: " + text, x.read(0), -1 - due);
    eq("34: nothing changes by " + text, x.checksum(), before);
  }

  private static void faultsOfTexts() {
    fault(";", 0);
    fault("K0,0;", 0);
    fault("k", 1);
    fault("k8,0;", 1);
    fault("k,", 1);
    fault("k-1,0;", 1);
    fault("k00,0;", 2);
    fault("k0;", 2);
    fault("k0", 2);
    fault("k0,", 3);
    fault("k0,;", 3);
    fault("k0,+1;", 3);
    fault("k0,00;", 4);
    fault("k0,01;", 4);
    fault("k0,-0;", 4);
    fault("k0,--1;", 4);
    fault("k0,-;", 4);
    fault("k0,-", 4);
    fault("k0,32768;", 7);
    fault("k0,-32769;", 8);
    fault("k0,40000;", 7);
    fault("k0,100000;", 8);
    fault("k0,1,2;", 4);
    fault("k0,1", 4);
    fault("k0,1 ;", 4);
    fault("k0,1;;", 5);
    fault("k0,1;o", 6);
    fault("i0,4;", 3);
    fault("f0,2,0;", 3);
    fault("f0,1,3;", 5);
    fault("p2,0,0;", 1);
    fault("r0,2;", 3);
    fault("d3;", 1);
    fault("x0,3,0;", 3);
    fault("x0,2,8;", 5);
    fault("+0,0;", 4);
    fault("o0,0;", 2);
    fault(":0;", 1);
    fault(".", 1);
    fault(".;:.", 3);
    fault(".;".repeat(40) + ".", 80);
    fault(".;".repeat(40) + ";", 80);
    fault(".;".repeat(39) + "k0,99999", 79 + 6);
    Pathwright x = fresh();
    typeAll(x, "k7,32767;k0,-32768;k1,0;k2,9999;k3,-1;");
    eq("34: edges", x.read(0), 5);
    eq("34: greatest", x.look(0, 0, 2), 32767);
    eq("34: least", x.look(0, 1, 2), -32768);
    eq("34: below 0", x.look(0, 4, 2), -1);
    x.erase();
    typeAll(x, ".;".repeat(40));
    eq("34: 40 statements", x.read(0), 40);
    eq("34: they need not be whole", x.check(0), 0);
    x.erase();
    for (int i = 0; i < 24; i++) {
      typeAll(x, "k0,-30000;");
    }
    eq("34: 240 letters", x.read(0), 24);
    x.copy(0);
    for (int i = 0; i < 16; i++) {
      x.insert(1, 0, 0);
    }
    eq("35: the longest text", x.written(1, 399), ';');
    eq("35: behind it", x.written(1, 400), -1);
  }

  // ---- promises 36 to 42

  private static void ends(String text, int row, char letter, int where) {
    ends(with(text), text, row, letter, where);
  }

  private static void ends(Pathwright x, String text, int row, char letter, int where) {
    eq("36: " + text, x.end(0, row), letter);
    eq("37: " + text, x.where(0, row), where);
  }

  /** What the first output of a walk is. */
  private static void puts(String what, Pathwright x, int row, int due) {
    eq("41: " + what, x.output(0, row, 0), due);
  }

  private static void walksEnd() {
    ends("", 0, 'e', 0);
    ends("k0,1;k0,2;", 63, 'e', 2);
    ends("k0,1;v0;k0,2;", 0, 'e', 1);
    ends("i0,0;a0;", 0, 'a', 1);
    ends("i0,0;a0;", 1, 'e', 2);
    ends("k1,5;/2,1,0;", 0, 'z', 1);
    ends("k1,5;%2,1,0;", 0, 'z', 1);
    ends("k0,4;g1,0;", 0, 'b', 1);
    ends("k0,3;g1,0;", 0, 'e', 2);
    ends("k0,-1;s0,1;", 0, 'b', 1);
    ends("k0,4;s0,1;", 0, 'b', 1);
    ends("k0,1;w0;.;", 0, 'l', 1);
    ends("k0,1;w0;k1,1;.;", 0, 'l', 1);
    ends("d0;x0,0,0;.;x0,0,0;", 0, 'd', 1);
    Pathwright x = with("k0,4;g1,0;");
    x.limit(0, 'r', 5);
    ends(x, "a longer row", 0, 'e', 2);
    x.limit(0, 'r', 1);
    x.set(0, 0, 1, 1);
    ends(x, "the shortest row", 0, 'b', 1);
    x.set(0, 0, 1, 0);
    ends(x, "its element", 0, 'e', 2);
    ends(way('t', "k0,32767;k1,1;+2,0,1;"), "+ by t", 0, 'o', 2);
    ends(way('t', "k0,32767;k1,1;+6,0,1;"), "+ by t of 32 digits", 0, 'e', 3);
    ends(way('t', "k0,32767;k1,1;+6,0,1;m0,6;"), "m by t", 0, 'o', 3);
    ends(way('t', "k0,32767;k1,1;+6,0,1;s3,6;"), "s by t", 0, 'o', 3);
    ends(way('t', "k0,32767;k1,1;+6,0,1;p0,0,6;"), "p by t", 0, 'o', 3);
    ends(way('t', "k0,32767;*6,0,0;*6,6,0;"), "* by t of 32 digits", 0, 'o', 2);
    ends(way('t', "k0,-32768;k1,-1;/2,0,1;"), "/ by t", 0, 'o', 2);
    ends(way('t', "k0,-32768;k1,1;-2,0,1;"), "- by t", 0, 'o', 2);
    ends(way('t', "/0,0,1;"), "z ahead of o", 0, 'z', 0);
    ends(way('t', "k0,9;k1,32767;*6,1,1;s0,6;"), "b ahead of o", 0, 'b', 3);
    ends(way('t', "d0;.;k0,32767;+6,0,0;x0,0,6;"), "x by t", 0, 'o', 4);
    ends(way('t', "d0;k0,32767;+6,0,0;v6;.;x0,0,6;"), "what is given by t", 0, 'o', 5);
    ends(way('t', "d0;k0,32767;+6,0,0;v6;.;x6,0,6;"), "given to 32 digits", 0, 'e', 6);
    Pathwright y = with("?0;");
    raises("36: program", INDEX, y, () -> y.end(2, 0));
    raises("36: row", INDEX, y, () -> y.end(0, 64));
    raises("36: row -1", INDEX, y, () -> y.end(0, -1));
    raises("36: not whole", STATE, y, () -> y.end(0, 0));
    raises("37: program", INDEX, y, () -> y.where(-1, 0));
    raises("37: row", INDEX, y, () -> y.where(0, 64));
    raises("37: not whole", STATE, y, () -> y.where(0, 0));
    eq("36: the other one is whole", y.end(1, 0), 'e');
  }

  private static void walksReckon() {
    puts("k", with("k1,-7;o1;"), 0, -7);
    puts("i", with("i3,1;o3;"), 0b0_0_10_11, 2);
    puts("m", with("k1,9;m2,1;o2;"), 0, 9);
    puts("+ wrapped", with("k0,32767;k1,2;+2,0,1;o2;"), 0, -32767);
    puts("- wrapped", with("k0,-32768;k1,1;-2,0,1;o2;"), 0, 32767);
    puts("* wrapped", with("k0,300;*2,0,0;o2;"), 0, 24464);
    puts("* of 32 digits", with("k0,300;*7,0,0;o7;"), 0, 90000);
    puts("* wrapped to 32", with("k0,-32768;*6,0,0;*6,6,0;*6,6,0;o6;"), 0, 0);
    puts("+ wrapped to 32", with("k0,-32768;*6,0,0;+6,6,6;o6;"), 0, MIN);
    puts("+ cut", way('s', "k0,32767;k1,2;+2,0,1;o2;"), 0, 32767);
    puts("- cut", way('s', "k0,-32768;k1,2;-2,0,1;o2;"), 0, -32768);
    puts("+ cut to 32", way('s', "k0,-32768;*6,0,0;+6,6,6;o6;"), 0, MAX);
    puts("m cut", way('s', "k0,300;*7,0,0;m1,7;o1;"), 0, 32767);
    puts("m wrapped", with("k0,300;*7,0,0;m1,7;o1;"), 0, 24464);
    puts("/", with("k0,-7;k1,2;/2,0,1;o2;"), 0, -3);
    puts("%", with("k0,-7;k1,2;%2,0,1;o2;"), 0, -1);
    puts("&", with("k0,-4;k1,7;&2,0,1;o2;"), 0, 4);
    puts("|", with("k0,-4;k1,1;|2,0,1;o2;"), 0, -3);
    puts("^", with("k0,-1;k1,5;^2,0,1;o2;"), 0, -6);
    puts("=", with("k0,5;k1,5;=2,0,1;o2;"), 0, 1);
    puts("= not", with("k0,5;=2,0,1;o2;"), 0, 0);
    puts("<", with("k0,-5;<2,0,1;o2;"), 0, 1);
    puts("< not", with("k0,5;<2,0,1;o2;"), 0, 0);
    puts("s and g", with("k0,3;k1,8;s0,1;k0,2;g3,0;k0,3;g2,0;o2;"), 0, 8);
    puts("another element", with("k0,3;k1,8;s0,1;k0,2;g3,0;o3;"), 0, 0);
    puts("s wrapped", with("k0,300;*6,0,0;s1,6;g2,1;o2;"), 0, 24464);
    puts("s cut", way('s', "k0,300;*6,0,0;s1,6;g7,1;o7;"), 0, 32767);
    puts("p and f", with("k0,9;p1,2,0;f3,1,2;o3;"), 0, 9);
    puts("another field", with("k0,9;p1,2,0;f3,0,2;o3;"), 0, 0);
    puts("p wrapped", with("k0,300;*6,0,0;p0,0,6;f7,0,0;o7;"), 0, 24464);
    puts("r", with("k0,9;p1,2,0;r0,1;k0,7;p1,2,0;f3,0,2;o3;"), 0, 9);
    puts("r to itself", with("k0,9;p1,2,0;r1,1;f3,1,2;o3;"), 0, 9);
    puts("? with :", with("i0,0;?0;k1,5;:;k1,6;.;o1;"), 1, 5);
    puts("? with : and 0", with("i0,0;?0;k1,5;:;k1,6;.;o1;"), 0, 6);
    puts("? without :", with("i0,0;?0;k1,5;.;o1;"), 0, 0);
    puts("? in ?", with("i0,0;i1,1;?0;?1;k2,1;:;k2,2;.;:;?1;k2,3;:;k2,4;.;.;o2;"), 4, 3);
    puts("w", with("i0,0;k1,1;w0;-0,0,1;+2,2,1;.;o2;"), 3, 3);
    puts("w in w", with("k0,3;k1,1;w0;-0,0,1;k2,2;w2;-2,2,1;+3,3,1;.;.;o3;"), 0, 6);
    puts("the same w begins anew", with("k1,1;k0,3;w0;-0,0,1;k2,6;w2;-2,2,1;+3,3,1;.;.;o3;"), 0,
        18);
    puts("a w that ends begins anew", with("k1,1;k0,6;w0;-0,0,1;.;k0,6;w0;-0,0,1;.;o1;"), 0, 1);
    Pathwright x = with("o0;".repeat(12) + "k0,1;o0;o0;");
    eq("40: at most 12", x.outputs(0, 0), 12);
    eq("41: the first ones", x.output(0, 0, 11), 0);
    raises("41: no 12", ELEMENT, x, () -> x.output(0, 0, 12));
    raises("41: no -1", ELEMENT, x, () -> x.output(0, 0, -1));
    raises("41: program", INDEX, x, () -> x.output(2, 0, 99));
    raises("41: row", INDEX, x, () -> x.output(0, 99, 99));
    raises("40: program", INDEX, x, () -> x.outputs(2, 0));
    raises("40: row", INDEX, x, () -> x.outputs(0, -1));
    eq("40: none", with("k0,1;").outputs(0, 0), 0);
    x.add(0, '.', 0, 0, 0);
    raises("40: not whole", STATE, x, () -> x.outputs(0, 0));
    raises("41: not whole", STATE, x, () -> x.output(0, 0, 99));
    Pathwright y = with("i0,0;o0;");
    y.fix(0, 3);
    eq("41: of a row that is not let", y.output(0, 1, 0), 1);
  }

  private static void walksCall() {
    puts("x and v", with("d1;k1,10;+0,0,1;v0;.;k2,5;x3,1,2;o3;"), 0, 15);
    puts("variables of its own", with("d0;k1,10;.;k1,5;x3,0,2;o1;"), 0, 5);
    puts("0 at first", with("d0;v1;.;k1,5;x3,0,1;o3;"), 0, 0);
    puts("gives 0 at its .", with("d0;k0,9;.;k3,7;x3,0,3;o3;"), 0, 0);
    puts("the row is of all", with("d0;k1,9;s2,1;.;x3,0,3;k2,0;g4,2;o4;"), 0, 9);
    puts("records are of all", with("d0;p0,0,0;.;k1,9;x3,0,1;f4,0,0;o4;"), 0, 9);
    puts("v ends the call alone", with("d0;k1,1;w1;v1;.;.;x3,0,3;o3;"), 0, 1);
    puts("called with 16 digits", with("d0;m6,0;v6;.;k1,300;*7,1,1;x6,0,7;o6;"), 0, 24464);
    puts("called with, cut", way('s', "d0;m6,0;v6;.;k1,300;*7,1,1;x6,0,7;o6;"), 0, 32767);
    puts("gives 32 digits", with("d0;*6,0,0;v6;.;k1,300;x6,0,1;o6;"), 0, 90000);
    puts("to 16 digits", with("d0;*6,0,0;v6;.;k1,300;x2,0,1;o2;"), 0, 24464);
    puts("three deep", with("d0;?0;k1,1;-0,0,1;x2,0,0;+2,2,1;.;v2;.;k0,2;x3,0,0;o3;"), 0, 2);
    ends("d0;?0;k1,1;-0,0,1;x2,0,0;+2,2,1;.;v2;.;k0,3;x3,0,0;o3;", 0, 'd', 4);
    puts("each call its own rounds",
        with("d0;k1,1;m2,0;w2;-2,2,1;m3,0;-3,3,1;x4,0,3;+5,5,1;.;v5;.;k0,2;x1,0,0;o1;"), 0, 2);
    Pathwright x = with("d0;k1,1;k2,2;w2;-2,2,1;?0;x4,0,5;.;.;v1;.;k0,1;x3,0,0;o3;");
    x.limit(0, 'b', 2);
    puts("rounds of an inner call do not count", x, 0, 1);
    Pathwright t = way('t', "d0;.;k0,32767;+6,0,0;x0,0,6;");
    eq("36: d ahead of o", way('t',
        "d0;k1,32767;+6,1,1;?0;k2,1;-0,0,2;x3,0,0;:;x3,0,6;.;.;k0,2;x3,0,0;").end(0, 0), 'd');
    no("42: the body does not begin", t.goes(0, 0, 4, 1));
    yes("42: a fork has the side 0", t.goes(0, 0, 4, 0));
  }

  private static void steps(String text, int row, int due) {
    eq("38: " + text, with(text).steps(0, row), due);
  }

  private static void walksCountSteps() {
    steps("", 0, 0);
    steps("k0,1;k0,2;", 0, 2);
    steps("d0;k1,1;.;k0,1;", 0, 1);
    steps("d0;k1,1;.;x0,0,1;", 0, 2);
    steps("d0;v1;.;x0,0,1;", 0, 2);
    steps("v0;k0,1;", 0, 1);
    steps("a0;k0,1;", 0, 1);
    steps("/0,0,0;k0,1;", 0, 1);
    steps("i0,0;?0;k1,1;k1,2;:;k1,3;.;", 1, 2);
    steps("i0,0;?0;o1;k1,2;:;k1,3;.;", 1, 4);
    steps("i0,0;?0;o1;k1,2;:;k1,3;.;", 0, 3);
    steps("?0;?1;o1;.;k1,1;:;k1,2;.;", 0, 2);
    steps("?0;o1;.;?0;k1,1;.;", 0, 2);
    steps("i0,0;k1,1;w0;-0,0,1;.;", 2, 7);
    steps("k0,1;w0;.;", 0, 8);
    steps("d0;x0,0,0;.;x0,0,0;", 0, 4);
    Pathwright x = with("k0,1;".repeat(20));
    x.limit(0, 's', 10);
    eq("38: no more than it lets", x.steps(0, 0), 10);
    ends(x, "s", 0, 's', 10);
    no("42: s is not done", x.goes(0, 0, 10, 1));
    yes("42: the last one is", x.goes(0, 0, 9, 1));
    x.limit(0, 's', 20);
    ends(x, "just as many", 0, 'e', 20);
    Pathwright y = with("k0,1;".repeat(10) + "d0;.;?0;.;");
    y.limit(0, 's', 10);
    ends(y, "d and . are no steps", 0, 's', 12);
    y.limit(0, 's', 11);
    ends(y, "nor is .", 0, 'e', 14);
    Pathwright z = with("k0,1;".repeat(9) + "?0;k1,1;k1,1;k1,1;.;");
    z.limit(0, 's', 10);
    ends(z, "a plain block is one", 0, 'e', 14);
    z.way(0, 't');
    ends(z, "by t no block is plain", 0, 's', 10);
    Pathwright w = with("k0,1;w0;.;");
    w.limit(0, 'b', 0);
    ends(w, "bound 0", 0, 'l', 1);
    eq("38: l is a step", w.steps(0, 0), 2);
    w.limit(0, 'b', 12);
    eq("38: bound 12", w.steps(0, 0), 14);
    w.limit(0, 's', 13);
    ends(w, "s ahead of l", 0, 's', 1);
    raises("38: program", INDEX, w, () -> w.steps(2, 0));
    raises("38: row", INDEX, w, () -> w.steps(0, 64));
    raises("38: not whole", STATE, with("."), () -> with(".").steps(0, 0));
  }

  private static void forks(char way, String text, int row, int due) {
    eq("39: by " + way + " " + text, way(way, text).forks(0, row), due);
  }

  private static void walksFork() {
    forks('w', "k0,1;o0;r0,1;", 0, 0);
    forks('w', "?0;.;", 0, 1);
    forks('w', "?0;:;.;?0;.;", 0, 2);
    forks('w', "k0,1;?0;?1;.;?0;.;.;", 0, 3);
    forks('w', "k0,1;w0;k0,0;.;", 0, 2);
    forks('w', "k0,1;w0;.;", 0, 7);
    forks('w', "k0,1;/1,0,0;%1,0,0;a0;g1,0;s0,1;", 0, 5);
    forks('w', "/1,0,0;%1,0,0;", 0, 1);
    forks('w', "d0;.;x0,0,0;m1,0;+1,1,1;", 0, 0);
    forks('t', "k0,1;i0,0;f0,0,0;r0,1;o0;=1,0,0;<1,0,0;", 0, 0);
    forks('t', "m0,1;+0,0,0;-0,0,0;*0,0,0;&0,0,0;|0,0,0;^0,0,0;p0,0,0;", 0, 8);
    forks('t', "k0,1;/1,0,0;%1,0,0;", 0, 4);
    forks('t', "g0,1;", 0, 1);
    forks('t', "s0,1;", 0, 2);
    forks('t', "d0;.;x0,0,0;", 0, 2);
    forks('t', "d0;v0;.;x0,0,0;", 0, 2);
    forks('t', "d0;x0,0,0;.;x0,0,0;", 0, 3);
    forks('t', "?0;k0,0;.;", 0, 1);
    Pathwright x = with("k0,1;?0;?1;.;?0;.;.;");
    x.merge(0, true);
    eq("39: merging or not", x.forks(0, 0), 3);
    raises("39: program", INDEX, x, () -> x.forks(2, 0));
    raises("39: row", INDEX, x, () -> x.forks(0, 64));
    x.drop(0, 6);
    raises("39: not whole", STATE, x, () -> x.forks(0, 0));
  }

  private static void covers(Pathwright x, String what, int row, String due) {
    eq("42: " + what, covers(x, row), due);
  }

  private static void walksCover() {
    covers(with("i0,0;?0;k1,1;:;o1;.;v0;o0;"), "? 1", 1, "111---1-");
    covers(with("i0,0;?0;k1,1;:;o1;.;v0;o0;"), "? 0", 0, "10--1-1-");
    covers(with("i0,0;k1,1;w0;-0,0,1;.;"), "w", 1, "1121-");
    covers(with("i0,0;k1,1;w0;-0,0,1;.;"), "w 0", 0, "110--");
    covers(with("k0,1;w0;.;"), "l", 0, "11-");
    covers(with("/0,0,0;o0;"), "z", 0, "0-");
    covers(with("a0;o0;"), "a", 0, "0-");
    covers(with("k0,9;g0,0;o0;"), "b", 0, "10-");
    covers(with("k0,1;a0;/1,0,0;g1,0;s0,1;"), "all sides 1", 0, "11111");
    covers(with("d0;x0,0,0;.;x0,0,0;o0;"), "d", 0, "-1-1-");
    covers(with("d0;x0,0,0;.;d1;x1,0,1;.;x0,1,0;"), "d later", 0, "-1--1-1");
    covers(way('t', "k0,32767;+1,0,0;"), "o", 0, "10");
    covers(way('t', "k0,32767;k1,1;/6,0,1;*6,6,6;/1,6,1;"), "z then o", 0, "11110");
    covers(way('t', "d0;k1,32767;+6,1,1;v6;.;x6,0,0;x5,0,0;"), "o of what is given", 0,
        "-111-12");
    covers(with("?0;k1,1;:;?0;k2,1;:;k3,1;.;.;"), "a plain block", 0, "0--0--1--");
    Pathwright x = with("i0,0;?0;");
    raises("42: program", INDEX, x, () -> x.goes(2, 0, 0, 0));
    raises("42: row", INDEX, x, () -> x.goes(0, 64, 0, 0));
    raises("42: statement", INDEX, x, () -> x.goes(0, 0, 2, 0));
    raises("42: side", INDEX, x, () -> x.goes(0, 0, 0, 2));
    raises("42: side -1", INDEX, x, () -> x.goes(0, 0, 0, -1));
    raises("42: not whole", STATE, x, () -> x.goes(0, 0, 0, 0));
  }

  /** A block is plain if with it, for a v that is no number, merging leaves one path. */
  private static void plain(String inside, boolean due) {
    Pathwright x = with("i7,0;?7;" + inside + ".;");
    x.merge(0, true);
    eq("44: plain with " + inside, x.paths(0), due ? 1 : 2);
  }

  private static void plainBlocks() {
    for (String one : EVERY.split(";")) {
      boolean isPlain = "kim+-*&|^=<fpr".indexOf(one.charAt(0)) >= 0;
      if ("?wdx:.".indexOf(one.charAt(0)) < 0) {
        plain(one + ";", isPlain);
      }
    }
    plain("", true);
    plain(":;", true);
    plain("k1,1;:;o1;", false);
    plain("?7;k1,1;.;", true);
    plain("?7;o1;.;", false);
    plain("w1;.;", false);
    Pathwright x = with("i7,0;?7;k1,1;.;");
    x.merge(0, true);
    x.way(0, 't');
    eq("44: by t none is plain", x.paths(0), 2);
    x.way(0, 's');
    eq("44: by s it is", x.paths(0), 1);
    Pathwright y = with("d0;.;i7,0;?7;x0,0,0;.;");
    y.merge(0, true);
    eq("44: x is not plain", y.paths(0), 2);
  }

  // ---- promises 43 to 52

  private static void pathsFound() {
    Pathwright x = with("i0,0;?0;o0;.;");
    no("43: it did not", x.merge(0, true));
    yes("43: it did", x.merge(0, false));
    no("43: each its own", x.merge(1, true));
    raises("43: program", INDEX, x, () -> x.merge(2, true));
    eq("44: paths", x.paths(0), 2);
    eq("45: 0", x.path(0, 0), 0);
    eq("45: 1", x.path(0, 63), 1);
    eq("45: 0 again", x.path(0, 60), 0);
    eq("46: f", x.taken(0, 1, 'f'), 1);
    eq("46: n", x.taken(0, 1, 'n'), 48);
    eq("46: n", x.taken(0, 0, 'n'), 16);
    eq("46: w", x.taken(0, 0, 'w'), 4);
    eq("46: c", x.taken(0, 0, 'c'), 1);
    eq("46: o", x.taken(0, 0, 'o'), 0);
    eq("46: o", x.taken(0, 1, 'o'), 1);
    eq("47: e", x.ending(0, 0), 'e');
    x.fix(0, 2);
    eq("44: of those let", x.paths(0), 1);
    eq("45: not let", x.path(0, 1), -1);
    eq("45: let", x.path(0, 2), 0);
    eq("46: f of those let", x.taken(0, 0, 'f'), 2);
    eq("46: a fork of a number is no condition", x.taken(0, 0, 'c'), 0);
    x.free(0);
    eq("44: free again", x.paths(0), 2);
    x.width(0, 0);
    eq("44: of no width", x.paths(0), 1);
    eq("46: but no number", x.taken(0, 0, 'c'), 1);
    Pathwright y = with("i0,0;i1,1;<2,0,1;?2;/3,0,1;:;/3,1,0;.;o3;");
    eq("44: paths", y.paths(0), 3);
    eq("47: z", y.ending(0, 0), 'z');
    eq("46: w", y.taken(0, 0, 'w'), 6);
    eq("46: order of the least rows", y.taken(0, 1, 'f'), 1);
    eq("46: order of the least rows", y.taken(0, 2, 'f'), 4);
    raises("44: program", INDEX, y, () -> y.paths(2));
    raises("45: program", INDEX, y, () -> y.path(2, 0));
    raises("45: row", INDEX, y, () -> y.path(0, 64));
    raises("46: program", INDEX, y, () -> y.taken(2, 0, 'x'));
    raises("46: what", ARGUMENT, y, () -> y.taken(0, 9, 'x'));
    raises("46: path", ELEMENT, y, () -> y.taken(0, 3, 'f'));
    raises("46: path -1", ELEMENT, y, () -> y.taken(0, -1, 'f'));
    raises("47: program", INDEX, y, () -> y.ending(-1, 0));
    raises("47: path", ELEMENT, y, () -> y.ending(0, 3));
    y.drop(0, 7);
    raises("44: not whole", STATE, y, () -> y.paths(0));
    raises("45: not whole", STATE, y, () -> y.path(0, 0));
    raises("46: not whole", STATE, y, () -> y.taken(0, 9, 'f'));
    raises("46: what ahead", ARGUMENT, y, () -> y.taken(0, 9, 'x'));
    raises("47: not whole", STATE, y, () -> y.ending(0, 9));
  }

  private static void hasCondition(Pathwright x, int i, int j, int s, char kind, int side,
      long sign) {
    eq("48: s", x.condition(0, i, j, 's'), s);
    eq("48: k", x.condition(0, i, j, 'k'), kind);
    eq("48: h", x.condition(0, i, j, 'h'), side);
    eq("49: sign", x.conditionSign(0, i, j), sign);
  }

  private static void pathsWithTerms() {
    long a = in(0);
    long b = in(1);
    Pathwright x = with("i0,0;i1,1;-2,0,1;?2;/3,0,1;o3;:;a0;w0;-0,0,1;.;.;o2;");
    eq("46: conditions", x.taken(0, 1, 'c'), 2);
    hasCondition(x, 1, 0, 3, '?', 1, let('-', a, b));
    hasCondition(x, 1, 1, 4, 'z', 0, b);
    hasCondition(x, 0, 0, 3, '?', 0, let('-', a, b));
    hasCondition(x, 0, 1, 7, 'a', 0, a);
    eq("47: a", x.ending(0, 0), 'a');
    int i = x.path(0, 5);
    hasCondition(x, i, 2, 8, 'w', 1, a);
    eq("48: z", x.condition(0, i, 0, 'z'), 3);
    eq("48: z", x.condition(0, i, 1, 'z'), 1);

    long far = let('*', a, num(20000));
    x = with("i0,0;k1,20000;*2,0,1;o2;*6,0,1;o6;");
    eq("51: wrapped", x.outputSign(0, 0, 0), wrap(16, far));
    eq("51: of 32 digits", x.outputSign(0, 0, 1), far);
    eq("52: value", x.outputValue(0, 0, 0, 2), 40000 - 65536);
    eq("52: value", x.outputValue(0, 0, 1, 2), 40000);
    x.way(0, 's');
    eq("51: cut", x.outputSign(0, 0, 0), cut(16, far));
    eq("52: cut", x.outputValue(0, 0, 0, 2), 32767);
    x.way(0, 't');
    eq("44: by t", x.paths(0), 2);
    long fits = let('&', num(1), let('<', far, num(32768)));
    hasCondition(x, 0, 0, 2, 'o', 1, fits);
    hasCondition(x, 1, 0, 2, 'o', 0, fits);
    eq("47: o", x.ending(0, 1), 'o');
    eq("51: by t wrapped", x.outputSign(0, 0, 0), wrap(16, far));
    eq("52: for a row of another path", x.outputValue(0, 0, 0, 2), 40000 - 65536);
    Pathwright y = way('t', "i0,0;k1,-20000;*2,0,1;");
    eq("49: o below", y.conditionSign(0, 0, 0),
        let('&', let('<', num(-32769), let('*', a, num(-20000))), num(1)));
    Pathwright z = way('t', "i0,0;k1,32767;*6,0,1;*6,6,1;*6,6,0;");
    long wide = let('*', let('*', a, num(32767)), num(32767));
    long wider = let('*', wrap(32, wide), a);
    eq("49: o of 32 digits", z.conditionSign(0, z.path(0, 2), 1),
        let('&', let('<', num(-2147483649L), wider), let('<', wider, num(2147483648L))));
    x.drop(0, 0);
    x.add(0, '.', 0, 0, 0);
    raisesOfPaths(with("i0,0;?0;o0;.;"), x);
    elements();
  }

  private static void raisesOfPaths(Pathwright x, Pathwright broken) {
    raises("48: program", INDEX, x, () -> x.condition(2, 0, 0, 'x'));
    raises("48: what", ARGUMENT, x, () -> x.condition(0, 9, 9, 'x'));
    raises("48: path", ELEMENT, x, () -> x.condition(0, 2, 0, 's'));
    raises("48: condition", ELEMENT, x, () -> x.condition(0, 1, 1, 's'));
    raises("48: condition -1", ELEMENT, x, () -> x.condition(0, 1, -1, 's'));
    raises("48: not whole", STATE, broken, () -> broken.condition(0, 9, 9, 's'));
    raises("48: what ahead", ARGUMENT, broken, () -> broken.condition(0, 9, 9, 'x'));
    raises("49: program", INDEX, x, () -> x.conditionSign(-1, 0, 0));
    raises("49: path", ELEMENT, x, () -> x.conditionSign(0, 2, 0));
    raises("49: condition", ELEMENT, x, () -> x.conditionSign(0, 0, 1));
    raises("49: not whole", STATE, broken, () -> broken.conditionSign(0, 0, 9));
    raises("50: program", INDEX, x, () -> x.holds(2, 0, 0, 0));
    raises("50: row", INDEX, x, () -> x.holds(0, 9, 0, 64));
    raises("50: path", ELEMENT, x, () -> x.holds(0, 2, 0, 0));
    raises("50: condition", ELEMENT, x, () -> x.holds(0, 0, 1, 0));
    raises("50: not whole", STATE, broken, () -> broken.holds(0, 9, 9, 0));
    raises("51: program", INDEX, x, () -> x.outputSign(2, 0, 0));
    raises("51: path", ELEMENT, x, () -> x.outputSign(0, 2, 0));
    raises("51: output", ELEMENT, x, () -> x.outputSign(0, 0, 0));
    raises("51: not whole", STATE, broken, () -> broken.outputSign(0, 9, 0));
    raises("52: program", INDEX, x, () -> x.outputValue(2, 0, 0, 0));
    raises("52: row", INDEX, x, () -> x.outputValue(0, 9, 0, 64));
    raises("52: path", ELEMENT, x, () -> x.outputValue(0, 2, 0, 0));
    raises("52: output", ELEMENT, x, () -> x.outputValue(0, 1, 1, 0));
    raises("52: output -1", ELEMENT, x, () -> x.outputValue(0, 1, -1, 0));
    raises("52: not whole", STATE, broken, () -> broken.outputValue(0, 9, 9, 0));
  }

  private static void elements() {
    long a = in(0);
    Pathwright x = with("i0,0;k1,7;s0,1;g2,0;o2;k3,2;g4,3;o4;");
    long[] e = new long[4];
    for (int k = 0; k < 4; k++) {
      e[k] = pick(let('=', a, num(k)), num(7), num(0));
    }
    long read = pick(let('=', a, num(0)), e[0],
        pick(let('=', a, num(1)), e[1], pick(let('=', a, num(2)), e[2], e[3])));
    eq("46: an index that is always there", x.taken(0, 0, 'c'), 0);
    eq("51: an element by a term", x.outputSign(0, 0, 0), read);
    eq("51: an element by a number", x.outputSign(0, 0, 1), e[2]);
    eq("52: element", x.outputValue(0, 0, 1, 2), 7);
    eq("52: another", x.outputValue(0, 0, 1, 3), 0);
    x.limit(0, 'r', 3);
    eq("44: b", x.paths(0), 2);
    long is = let('&', num(1), let('<', a, num(3)));
    hasCondition(x, 0, 0, 2, 'b', 1, is);
    hasCondition(x, 1, 0, 2, 'b', 0, is);
    eq("47: b", x.ending(0, 1), 'b');
    x.limit(0, 'r', 1);
    x.drop(0, 7);
    x.drop(0, 6);
    eq("51: a row of one", x.outputSign(0, 0, 0), e[0]);
    Pathwright y = with("i0,0;k1,1;-0,0,1;g2,0;");
    hasCondition(y, 0, 0, 3, 'b', 0, let('&', let('<', num(-1), let('-', a, num(1))), num(1)));
  }

  private static void pathsOfRows() {
    Pathwright x = with("i0,0;i1,1;<2,0,1;?2;o0;.;");
    x.fix(1, 2);
    eq("44: paths", x.paths(0), 2);
    eq("49: a fixed input is a number", x.conditionSign(0, 0, 0), let('<', in(0), num(2)));
    yes("50: holds", x.holds(0, 0, 0, 1));
    no("50: not", x.holds(0, 0, 0, 3));
    no("50: the other side not", x.holds(0, 1, 0, 1));
    yes("50: the other side", x.holds(0, 1, 0, 2));
    yes("50: for a row that is not let", x.holds(0, 0, 0, 0b0_0_01_01));
    eq("52: for a row that is not let", x.outputValue(0, 0, 0, 3), 3);
    x.free(1);
    eq("49: free again", x.conditionSign(0, 0, 0), let('<', in(0), in(1)));
    no("50: for a row", x.holds(0, 0, 0, 4));
    x.set(0, 4, 0, 1);
    eq("51: after it was set", x.outputSign(0, 1, 0), in(1));
    x.copy(0);
    x.set(0, 4, 0, 0);
    eq("51: of the one", x.outputSign(0, 1, 0), in(0));
    eq("51: of the other", x.outputSign(1, 1, 0), in(1));
    eq("51: of the one again", x.outputSign(0, 1, 0), in(0));
    Pathwright y = with("i0,0;i1,1;" + "?0;.;?1;.;".repeat(2));
    eq("44: all sides count", y.paths(0), 4);
    eq("46: conditions again and again", y.taken(0, 0, 'c'), 4);
    Pathwright z = with("i0,0;" + "o0;".repeat(14));
    eq("46: 12 outputs", z.taken(0, 0, 'o'), 12);
  }

  private static void pathsMerged() {
    long a = in(0);
    long b = in(1);
    Pathwright x = with("i0,0;i1,1;?0;k2,5;p1,1,1;:;?1;k2,6;.;i3,1;.;o2;o3;f4,1,1;o4;");
    eq("44: not merging", x.paths(0), 3);
    x.merge(0, true);
    eq("44: merging", x.paths(0), 1);
    eq("46: no conditions", x.taken(0, 0, 'c'), 0);
    long inner = pick(b, num(6), num(0));
    eq("51: both sides", x.outputSign(0, 0, 0), pick(a, num(5), inner));
    eq("51: by the side 0 alone", x.outputSign(0, 0, 1), pick(a, num(0), b));
    eq("51: a field", x.outputSign(0, 0, 2), pick(a, b, num(0)));
    eq("52: 5", x.outputValue(0, 0, 0, 1), 5);
    eq("52: 6", x.outputValue(0, 0, 0, 4), 6);
    eq("52: 0", x.outputValue(0, 0, 0, 0), 0);
    x.fix(0, 0);
    eq("51: unless v is a number", x.outputSign(0, 0, 0), inner);
    eq("39: forks all the same", x.forks(0, 0), 2);
    Pathwright y = with("i0,0;?0;k1,1;.;?1;o1;.;?0;k1,2;:;.;");
    y.merge(0, true);
    eq("44: the second is not plain", y.paths(0), 2);
    hasCondition(y, 0, 0, 4, '?', 0, pick(a, num(1), num(0)));
    eq("46: one condition", y.taken(0, 1, 'c'), 1);
    Pathwright z = with("i0,0;i1,1;w1;k2,1;-1,1,2;?0;+3,3,2;.;.;o3;");
    z.merge(0, true);
    eq("44: by rounds alone", z.paths(0), 4);
    long one = pick(a, num(1), num(0));
    eq("51: round by round", z.outputSign(0, 2, 0), pick(a, let('+', one, num(1)), one));
    mergeEach();
    Pathwright f = with("d0;?0;k1,3;.;v1;.;i0,0;x2,0,0;o2;");
    f.merge(0, true);
    eq("44: in a call", f.paths(0), 1);
    eq("51: in a call", f.outputSign(0, 0, 0), pick(a, num(3), num(0)));
  }

  /** Each variable and field is merged, from what it was ahead of the block. */
  private static void mergeEach() {
    long a = in(0);
    for (int v = 1; v < 8; v++) {
      Pathwright x = with("i0,0;kV,9;?0;kV,5;:;+V,V,0;.;oV;".replace("V", "" + v));
      x.merge(0, true);
      eq("51: variable " + v, x.outputSign(0, 0, 0),
          pick(a, num(5), let('+', num(9), a)));
    }
    for (int f = 0; f < 6; f++) {
      String field = f / 3 + "," + f % 3;
      Pathwright x = with("i0,0;i1,1;k2,9;k3,5;p" + field + ",2;?0;p" + field + ",3;?1;k4,1;.;:;f4,"
          + field + ";+4,4,0;p" + field + ",4;.;f5," + field + ";o5;o4;");
      x.merge(0, true);
      long less = let('+', num(9), a);
      eq("51: field " + field, x.outputSign(0, 0, 0), pick(a, num(5), less));
      eq("51: with field " + field, x.outputSign(0, 0, 1),
          pick(a, pick(in(1), num(1), num(0)), less));
    }
  }

  // ---- promises 53 to 62

  private static final String THREE =
      "i0,0;i1,1;?0;o0;:;o1;.;?1;/2,0,1;:;/2,1,0;.;";

  private static void goalsReached() {
    Pathwright x = with("i0,0;i1,1;?0;o0;:;o1;.;a1;d0;o0;.;");
    eq("53: goals", x.goals(0), 8);
    eq("54: least row", x.reaching(0, 2, 1), 1);
    eq("54: 0", x.reaching(0, 2, 0), 0);
    eq("54: a 1", x.reaching(0, 7, 1), 4);
    eq("54: never", x.reaching(0, 9, 1), -1);
    eq("54: no such side", x.reaching(0, 0, 0), -1);
    eq("54: of .", x.reaching(0, 6, 1), -1);
    x.fix(0, 3);
    eq("53: of those let", x.goals(0), 6);
    eq("54: of those let", x.reaching(0, 2, 1), 3);
    eq("54: of those let", x.reaching(0, 2, 0), -1);
    raises("53: program", INDEX, x, () -> x.goals(2));
    raises("54: program", INDEX, x, () -> x.reaching(2, 0, 0));
    raises("54: statement", INDEX, x, () -> x.reaching(0, 11, 0));
    raises("54: side", INDEX, x, () -> x.reaching(0, 0, 2));
    x.drop(0, 10);
    raises("53: not whole", STATE, x, () -> x.goals(0));
    raises("54: not whole", STATE, x, () -> x.reaching(0, 0, 0));
    eq("53: of nothing", x.goals(1), 0);
    Pathwright y = with("i0,0;i1,1;i2,2;i3,3;|0,0,1;|0,0,2;|0,0,3;?0;:;o0;.;");
    eq("53: one that the row 0 covers alone", y.goals(0), 10);
    eq("54: by the row 0", y.reaching(0, 9, 1), 0);
    Pathwright z = with("i0,0;i1,1;i2,2;i3,3;*1,1,0;*2,2,3;k4,9;=1,1,4;&1,1,2;?1;o1;.;");
    eq("53: one that the last row covers alone", z.goals(0), 12);
    eq("54: by the last row", z.reaching(0, 10, 1), 63);
  }

  private static void goalsKept() {
    Pathwright x = with(THREE);
    eq("55: keep", x.keep(5), 1);
    eq("55: another", x.keep(3), 2);
    eq("55: again", x.keep(5), 2);
    eq("57: first", x.kept(0), 5);
    eq("57: second", x.kept(1), 3);
    eq("58: covered", x.covered(0), 8);
    eq("58: by the other program", x.covered(1), 0);
    x.fix(0, 0);
    eq("58: let or not", x.covered(0), 8);
    raises("57: none", INDEX, x, () -> x.kept(2));
    raises("57: -1", INDEX, x, () -> x.kept(-1));
    raises("55: row", INDEX, x, () -> x.keep(64));
    raises("55: row -1", INDEX, x, () -> x.keep(-1));
    raises("58: program", INDEX, x, () -> x.covered(2));
    for (int row = 6; row < 20; row++) {
      x.keep(row);
    }
    raises("55: 16 others", STATE, x, () -> x.keep(63));
    raises("55: no row ahead", INDEX, x, () -> x.keep(64));
    eq("55: one of the 16", x.keep(19), 16);
    eq("56: unkeep", x.unkeep(), 16);
    eq("56: none", x.unkeep(), 0);
    eq("58: nothing", x.covered(0), 0);

    Pathwright y = with(THREE);
    y.keep(63);
    eq("59: suite", y.suite(0), 3);
    eq("59: the most first, the least of them", y.kept(0), 0);
    eq("59: then", y.kept(1), 5);
    eq("59: then", y.kept(2), 1);
    eq("58: all of them", y.covered(0), y.goals(0));
    y.fix(0, 1);
    eq("59: of those let", y.suite(0), 2);
    eq("59: of those let", y.kept(0), 1);
    eq("59: of those let", y.kept(1), 5);
    eq("59: of nothing", y.suite(1), 0);
    raises("57: none is kept then", INDEX, y, () -> y.kept(0));
    raises("59: program", INDEX, y, () -> y.suite(2));
    y.keep(7);
    y.add(0, '.', 0, 0, 0);
    raises("58: not whole", STATE, y, () -> y.covered(0));
    raises("59: not whole", STATE, y, () -> y.suite(0));
    StringBuilder many = new StringBuilder("i0,0;k1,0;");
    for (int n = 0; n < 9; n++) {
      many.append("=2,0,1;?2;o0;.;");
    }
    Pathwright z = with(many.toString());
    eq("59: no more than it takes", z.suite(0), 2);
    suiteIsFull();
  }

  /** A program of which each row covers a goal of its own: a suite cannot hold them all. */
  private static void suiteIsFull() {
    Pathwright x = fresh();
    for (int k = 0; k < 4; k++) {
      x.width(k, 0);
    }
    x.width(0, 4);
    x.width(1, 2);
    put(x, 0, "i0,0;i1,1;k2,4;*1,1,2;*1,1,2;+0,0,1;k1,1;k3,2;");
    for (int n = 0; n < 16; n++) {
      put(x, 0, n % 2 == 0 ? "/4,1,0;" : "%4,1,0;");
      put(x, 0, "-0,0,1;");
    }
    eq("53: each row ends elsewhere", x.goals(0), 8 + 32 + 16);
    eq("59: the one that goes through, and 15 of 16", x.suite(0), 16);
    eq("59: the first", x.kept(0), 16);
    eq("59: then", x.kept(1), 0);
    eq("59: the last", x.kept(15), 14);
    eq("58: one is left", x.covered(0), 8 + 32 + 15);
    x.unkeep();
    for (int row = 63; row > 47; row--) {
      x.keep(row);
    }
    eq("60: 16 are kept already", x.fuzz(0, 40, 7), 0);
  }

  private static int z;

  private static int draw(int n) {
    z = z * 1103515245 + 12345;
    return (z >>> 16) % n;
  }

  private static void goalsTried() {
    Pathwright x = with(THREE);
    x.keep(9);
    z = 1;
    draw(1);
    int how = draw(4);
    eq("60: the first draw by this seed", how, 2);
    eq("60: which input", draw(4), 1);
    int kept = x.fuzz(0, 1, 1);
    eq("60: input 1 becomes 0", kept, 1);
    eq("60: it is kept", x.kept(1), 1);
    eq("60: nothing new", x.fuzz(0, 1, 1), 0);
    Pathwright y = with(THREE);
    eq("60: none is kept at first", y.fuzz(0, 1, 0) >= 1 ? 1 : 0, 1);
    eq("60: the least one first", y.kept(0), 0);
    y.unkeep();
    y.fix(1, 2);
    y.fuzz(1, 1, 0);
    eq("60: the least that is let", y.kept(0), 8);
    eq("60: in a program without goals", y.unkeep(), 1);
    for (int seed = 0; seed < 300; seed++) {
      tryBySeed(seed);
    }
    raises("60: program", INDEX, x, () -> x.fuzz(2, 0, 0));
    raises("60: rounds 0", ARGUMENT, x, () -> x.fuzz(0, 0, 0));
    raises("60: rounds 41", ARGUMENT, x, () -> x.fuzz(0, 41, 0));
    x.add(0, '.', 0, 0, 0);
    raises("60: not whole", STATE, x, () -> x.fuzz(0, 1, 0));
    raises("60: rounds ahead", ARGUMENT, x, () -> x.fuzz(0, 0, 0));
    Pathwright w = fresh();
    for (int k = 0; k < 4; k++) {
      w.width(k, 0);
    }
    eq("60: one row alone", put(w, 0, "o0;").fuzz(0, 40, 5), 1);
    w.width(2, 1);
    w.unkeep();
    w.clear(0);
    put(w, 0, "i0,2;a0;");
    eq("60: two rows", w.fuzz(0, 40, 5), 2);
  }

  /** One round from a kept row, reckoned here once more. */
  private static void tryBySeed(int seed) {
    Pathwright x = with("i0,0;i1,1;i2,2;i3,3;k4,4;*1,1,4;+5,0,1;k4,16;*2,2,4;+5,5,2;k4,32;*3,3,4;"
        + "+5,5,3;k4,27;-5,5,4;a5;");
    int row = 27;
    x.keep(row);
    z = seed * 7919;
    draw(1);
    int[] values = {3, 2, 1, 0};
    int[] widths = {2, 2, 1, 1};
    int how = draw(4);
    int next = row;
    if (how == 0) {
      next = row ^ 1 << draw(6);
    } else {
      int k = draw(4);
      values[k] = how == 1 ? (values[k] + 1) % (1 << widths[k])
          : how == 2 ? 0 : values[draw(4)] % (1 << widths[k]);
      next = values[0] | values[1] << 2 | values[2] << 4 | values[3] << 5;
    }
    eq("60: seed " + seed * 7919, x.fuzz(0, 1, seed * 7919), next == row ? 0 : 1);
    if (next != row) {
      eq("60: row by seed " + seed * 7919, x.kept(1), next);
    }
  }

  private static void goalsShrunk() {
    Pathwright x = with("i0,0;i1,1;/2,0,1;");
    eq("61: input by input", x.shrink(0, 63), 4);
    eq("61: another end", x.shrink(0, 3), 0);
    eq("61: it is as small as can be", x.shrink(0, 4), 4);
    x.fix(0, 2);
    eq("61: let alone", x.shrink(0, 0b0_0_11_10), 6);
    eq("61: of one that is not let", x.shrink(0, 0b0_0_11_01), 13);
    x.fix(0, 0);
    eq("61: of one that is not let", x.shrink(0, 0b0_0_11_01), 4);
    Pathwright y = fresh();
    y.width(1, 0);
    y.width(0, 4);
    put(y, 0, "i0,0;k1,5;<2,0,1;k3,1;-2,3,2;a2;");
    eq("61: half, then one less", y.shrink(0, 13), 5);
    eq("61: half", y.shrink(0, 11), 5);
    eq("61: one less", y.shrink(0, 9), 5);
    eq("61: 0", y.shrink(0, 4), 0);
    y.clear(0);
    put(y, 0, "i0,0;k1,4;=2,0,1;k1,7;=3,0,1;|2,2,3;k1,8;=3,0,1;|2,2,3;a2;");
    eq("61: half ahead of one less", y.shrink(0, 8), 4);
    eq("61: neither", y.shrink(0, 7), 7);
    y.set(0, 1, 1, 0);
    eq("61: 0 ahead of one less", y.shrink(0, 8), 0);
    Pathwright w = with("i0,0;i1,1;?0;a0;:;a1;.;");
    eq("61: by another way to the same end", w.shrink(0, 0b0_0_01_10), 0b0_0_01_00);
    Pathwright v = with("i0,0;i1,1;=2,0,1;a2;");
    eq("61: a later one makes room", v.shrink(0, 0b0_0_10_01), 0b0_0_01_00);
    eq("61: none changes nothing", v.checksum(), with("i0,0;i1,1;=2,0,1;a2;").checksum());
    raises("61: program", INDEX, x, () -> x.shrink(2, 0));
    raises("61: row", INDEX, x, () -> x.shrink(0, 64));
    x.add(0, '.', 0, 0, 0);
    raises("61: not whole", STATE, x, () -> x.shrink(0, 0));
  }

  private static void programsUnlike() {
    Pathwright x = with("i0,0;o0;");
    put(x, 1, "i0,0;k1,2;?1;o0;.;");
    eq("62: alike", x.unlike(), -1);
    x.set(1, 0, 1, 1);
    eq("62: an output", x.unlike(), 1);
    x.fix(0, 0);
    eq("62: of those let", x.unlike(), 4);
    x.fix(1, 0);
    eq("62: none", x.unlike(), -1);
    Pathwright y = with("i0,1;o0;");
    put(y, 1, "i0,1;o0;a0;");
    eq("62: an end", y.unlike(), 0);
    y.set(1, 0, 0, 3);
    y.clear(1);
    put(y, 1, "i0,1;o0;k1,1;v1;");
    eq("62: not where it ends", y.unlike(), -1);
    y.clear(1);
    eq("62: how many outputs", y.unlike(), 0);
    y.clear(0);
    put(y, 0, "o0;".repeat(13));
    put(y, 1, "o0;".repeat(12));
    eq("62: those kept alone", y.unlike(), -1);
    y.add(1, '.', 0, 0, 0);
    raises("62: 1 is not whole", STATE, y, () -> y.unlike());
    y.copy(1);
    y.clear(1);
    raises("62: 0 is not whole", STATE, y, () -> y.unlike());
  }

  // ---- promises 63 to 65

  private static void theorem() {
    Pathwright x = fresh();
    x.width(3, 0);
    x.width(0, 3);
    x.fix(1, 2);
    x.number(-5);
    x.input(0);
    put(x, 0, "k1,-7;o1;");
    put(x, 1, ":;");
    x.way(1, 't');
    x.limit(1, 'r', 1);
    x.limit(1, 's', 99);
    x.limit(1, 'b', 12);
    x.merge(1, true);
    x.keep(9);
    x.keep(2);
    x.type('a', 'b', '#', 'c');
    eq("63: checksum", x.checksum(), sum(3, -1, 2, 2, 1, -1, 0, -1, 2, num(-5), in(0),
        2, 'k', 1, -7, 0, 'o', 1, 0, 0, 'w', 4, 80, 6, 0, 1, ':', 0, 0, 0, 't', 1, 99, 12, 1,
        2, 9, 2, 3, 'a', 'b', 'c'));
    Pathwright y = with("i0,0;i1,1;?0;k2,1;:;?1;k2,2;.;.;/3,1,2;g4,0;o3;w0;k5,1;-0,0,5;.;");
    for (int merging = 0; merging < 2; merging++) {
      y.merge(0, merging == 1);
      for (char way : new char[] {'w', 's', 't'}) {
        y.way(0, way);
        for (int row = 0; row < 64; row++) {
          yes("64: row " + row + " by " + way, y.isTrue(0, row));
        }
        yes("65: by " + way, y.goalsAreTrue(0));
      }
    }
    y.fix(0, 1);
    yes("64: a row that is not let", y.isTrue(0, 0));
    yes("64: one that is", y.isTrue(0, 1));
    yes("64: of nothing", y.isTrue(1, 0));
    yes("65: of nothing", y.goalsAreTrue(1));
    raises("64: program", INDEX, y, () -> y.isTrue(2, 0));
    raises("64: row", INDEX, y, () -> y.isTrue(0, 64));
    raises("65: program", INDEX, y, () -> y.goalsAreTrue(2));
    y.add(0, '.', 0, 0, 0);
    raises("64: not whole", STATE, y, () -> y.isTrue(0, 0));
    raises("64: not whole and not let", STATE, y, () -> y.isTrue(0, 1));
    raises("65: not whole", STATE, y, () -> y.goalsAreTrue(0));
  }
}
