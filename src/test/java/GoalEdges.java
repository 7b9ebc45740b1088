import java.util.ArrayList;
import java.util.HashMap;
import java.util.HashSet;
import java.util.List;
import java.util.Map;
import java.util.Set;
import java.util.function.Supplier;

/** The edges of Part 6 and of the promises 53 to 65: goals, kept rows, the theorem. */
final class GoalEdges extends Edges {
  /** By the widths 4 and 2, one that ends at a statement of its own for each row up to 15. */
  private static String manyGoals() {
    StringBuilder text = new StringBuilder("i0,0;i1,1;k2,4;*1,1,2;*1,1,2;+0,0,1;k1,1;k3,2;");
    for (int n = 0; n < 16; n++) {
      text.append(n % 2 == 0 ? "/4,1,0;" : "%4,1,0;").append("-0,0,1;");
    }
    return text.toString();
  }

  private static Pathwright wide(String text) {
    Pathwright x = fresh();
    for (int k = 0; k < 4; k++) {
      x.width(k, 0);
    }
    x.width(0, 4);
    x.width(1, 2);
    return put(x, 0, text);
  }

  static void all() {
    isHeading("Part 6, goals.");
    rowsKept();
    suites();
    fuzzFirst();
    draws();
    rounds();
    rowsThatCome();
    smaller();
    unlike();
    goalsTold();
    keptTold();
    coverTold();
    shrinkTold();
    checksum();
    theorem();
  }

  private static void rowsKept() {
    says("At most 16 rows are kept, in the order in which they were.");
    Pathwright x = fresh();
    for (int n = 0; n < 16; n++) {
      eq("one by one", x.keep(63 - 4 * n), n + 1);
    }
    raises("one more", STATE, x, () -> x.keep(0));
    eq("one of them", x.keep(3), 16);
    eq("the first of them", x.keep(63), 16);
    StringBuilder due = new StringBuilder("63");
    for (int n = 1; n < 16; n++) {
      due.append(" ").append(63 - 4 * n);
    }
    eq("in their order", keptOf(x), due.toString());
    raises("there is no 16", INDEX, x, () -> x.kept(16));
    raises("nor a -1", INDEX, x, () -> x.kept(-1));
    eq("from none on", x.unkeep(), 16);
    eq("another order", x.keep(3) + x.keep(63), 3);
    eq("in their order", keptOf(x), "3 63");
  }

  private static void suites() {
    says("A suite: no row is kept at first; as long as a goal that a row which");
    Pathwright none = fresh();
    none.keep(5);
    eq("no goals", none.suite(0), 0);
    raises("none is kept then", INDEX, none, () -> none.kept(0));
    Pathwright one = with("o0;");
    one.keep(63);
    eq("one goal", one.suite(0) + ": " + keptOf(one), "1: 0");
    Pathwright x = wide(manyGoals());
    eq("16, and goals that are left", x.suite(0), 16);
    eq("the most first, then the least of several", keptOf(x),
        "16 0 1 2 3 4 5 6 7 8 9 10 11 12 13 14");
    eq("one goal is left", x.goals(0) - x.covered(0), 1);
    x.fix(1, 0);
    eq("just 16 that are let", x.suite(0), 16);
    eq("none is left", x.goals(0) - x.covered(0), 0);
    eq("the most first", keptOf(x), "15 0 1 2 3 4 5 6 7 8 9 10 11 12 13 14");
    x.fix(0, 9);
    eq("one row is let", x.suite(0) + ": " + keptOf(x), "1: 9");
    Pathwright y = with("i0,0;?0;o0;.;");
    eq("by 1, then by 0", y.suite(0) + ": " + keptOf(y), "2: 1 0");
    y.fix(0, 0);
    eq("what no row that is let covers is no goal", y.suite(0) + ": " + keptOf(y), "1: 0");
    Pathwright z = with("i0,0;i1,1;?0;o0;.;?1;o1;.;");
    eq("all goals of the side 1, then of the side 0", z.suite(0) + ": " + keptOf(z), "2: 5 0");
    z.fix(2, 1);
    eq("not one that is not let, though it is less", z.suite(0) + ": " + keptOf(z), "2: 21 16");
  }

  private static void fuzzFirst() {
    says("Trying by chance: if no row is kept, the least one that is let is kept");
    Pathwright x = with("o0;");
    eq("it counts", x.fuzz(0, 1, 0), 1);
    eq("the row 0", keptOf(x), "0");
    eq("there is one now", x.fuzz(0, 40, 0), 0);
    x.unkeep();
    x.fix(0, 3);
    x.fix(3, 1);
    eq("the least that is let", x.fuzz(0, 1, 0) + ": " + keptOf(x), "1: 35");
    x.unkeep();
    for (int k = 0; k < 4; k++) {
      x.fix(k, x.part(63, k));
    }
    eq("the last one", x.fuzz(0, 40, 5) + ": " + keptOf(x), "1: 63");
    eq("of a program with no goals", fresh().fuzz(1, 40, 9), 1);
    Pathwright y = with("o0;");
    y.keep(9);
    eq("one is kept already", y.fuzz(0, 40, 3) + ": " + keptOf(y), "0: 9");
  }

  // ---- trying by chance, once more by the words of the document

  /** Each trial is one of a fresh object; what a row covers is asked of another one, once. */
  private static final class Trials {
    final Set<String> seen = new HashSet<>();
    private final Supplier<Pathwright> maker;
    private final int[] widths;
    private final Map<Integer, Set<Integer>> goals = new HashMap<>();
    private int z;

    Trials(Supplier<Pathwright> maker, int... widths) {
      this.maker = maker;
      this.widths = widths;
    }

    /** How many are kept in the end. */
    int eq(int[] rows, int rounds, int seed) {
      Pathwright x = maker.get();
      for (int row : rows) {
        x.keep(row);
      }
      List<Integer> due = keptOf(x, rows, rounds, seed);
      Due.eq(rounds + " rounds by " + seed, x.fuzz(0, rounds, seed) + ": " + Due.keptOf(x),
          due.size() - rows.length + ": " + due.toString().replaceAll("[\\[\\],]", ""));
      return due.size();
    }

    private List<Integer> keptOf(Pathwright x, int[] rows, int rounds, int seed) {
      List<Integer> kept = new ArrayList<>();
      for (int row : rows) {
        kept.add(row);
      }
      for (int row = 0; kept.isEmpty(); row++) {
        if (x.isLet(row)) {
          kept.add(row);
        }
      }
      Set<Integer> covered = new HashSet<>();
      kept.forEach(row -> covered.addAll(goalsOf(row)));
      z = seed;
      for (int round = 0; round < rounds; round++) {
        int next = comes(x, kept.get(draw(kept.size())));
        if (x.isLet(next) && !covered.containsAll(goalsOf(next)) && kept.size() < 16) {
          kept.add(next);
          covered.addAll(goalsOf(next));
        }
      }
      return kept;
    }

    private Set<Integer> goalsOf(int row) {
      return goals.computeIfAbsent(row, key -> {
        Pathwright x = maker.get();
        Set<Integer> all = new HashSet<>();
        for (int s = 0; s < x.count(0); s++) {
          for (int side = 0; side < 2; side++) {
            if (x.goes(0, row, s, side)) {
              all.add(2 * s + side);
            }
          }
        }
        return all;
      });
    }

    private int draw(int n) {
      z = z * 1103515245 + 12345;
      return (z >>> 16) % n;
    }

    /** The row that comes of a row; how it was drawn is told in seen. */
    private int comes(Pathwright x, int row) {
      int all = widths[0] + widths[1] + widths[2] + widths[3];
      int how = draw(4);
      if (how == 0) {
        int digit = all == 0 ? -1 : draw(all);
        seen.add("0 " + digit);
        return all == 0 ? row : row ^ 1 << digit;
      }
      int[] values = new int[4];
      for (int k = 0; k < 4; k++) {
        values[k] = x.part(row, k);
      }
      int k = draw(4);
      int other = how == 3 ? draw(4) : k;
      seen.add(how + " " + k + (how == 3 ? " " + other : ""));
      int end = (1 << widths[k]) - 1;
      values[k] = how == 1 ? (values[k] == end ? 0 : values[k] + 1)
          : how == 2 ? 0 : values[other] & end;
      int next = 0;
      for (int i = 3; i >= 0; i--) {
        next = next << widths[i] | values[i];
      }
      return next;
    }

    /** A seed by which the first round draws just this of a row that is kept alone. */
    int seedOf(String what, int row) {
      Pathwright x = maker.get();
      for (int seed = 0; seed < 100; seed++) {
        seen.clear();
        z = seed;
        draw(1);
        comes(x, row);
        if (seen.contains(what)) {
          return seed;
        }
      }
      return -1;
    }
  }

  /** All rows but one end at the last statement: what comes of this one is kept, if it is let. */
  private static final String BUT_27 =
      "i0,0;i1,1;i2,2;i3,3;k4,4;*1,1,4;+5,0,1;k4,16;*2,2,4;+5,5,2;k4,32;*3,3,4;"
      + "+5,5,3;k4,27;-5,5,4;a5;";

  private static void draws() {
    says("A draw below n: z, the seed at first, becomes z times 1103515245 and");
    Pathwright x = with(BUT_27);
    x.keep(27);
    // By the seed 0, z is 12345, -740551042 and -1492899873: 0, 54236 and 42756 without their
    // signs, and so the row 27, a digit, and the digit 0 of 6.
    eq("three draws", x.fuzz(0, 1, 0) + ": " + keptOf(x), "1: 27 26");
    Trials trials = new Trials(() -> with(BUT_27), 2, 2, 1, 1);
    for (int seed : new int[] {0, 1, -1, 2, MIN, MAX, MIN + 1, MAX - 1, 65535, 65536, -65536}) {
      trials.eq(new int[] {27}, 1, seed);
      trials.eq(new int[] {27}, 40, seed);
    }
    Pathwright y = fresh();
    long before = y.checksum();
    y.fuzz(0, 1, 5);
    y.unkeep();
    eq("the seed is not kept", y.checksum(), before);
    Pathwright again = with(BUT_27);
    for (int n = 0; n < 3; n++) {
      again.unkeep();
      again.keep(27);
      eq("by the same seed again", again.fuzz(0, 1, 0) + ": " + keptOf(again), "1: 27 26");
    }
  }

  private static void rounds() {
    says("In each round a kept row is drawn, by its place, then a draw below 4");
    Trials one = new Trials(() -> with(BUT_27), 2, 2, 1, 1);
    for (int seed = -400; seed < 400; seed++) {
      one.eq(new int[] {27}, 1, seed * 7919);
    }
    // 6 digits, 4 inputs twice, and 4 inputs with 4.
    eq("each kind was drawn", one.seen.size(), 6 + 4 + 4 + 16);
    // Two rows that are kept: a product is 0 for both.
    Trials two = new Trials(() -> with(
        BUT_27.replace("a5;", "k4,27;+6,5,4;k4,60;-6,6,4;*7,5,6;a7;")), 2, 2, 1, 1);
    for (int seed = 0; seed < 200; seed++) {
      two.eq(new int[] {60, 27}, 1, seed * 104729);
      two.eq(new int[] {27, 60}, 2, seed * 7919);
    }
    Trials none = new Trials(GoalEdges::oneRow, 0, 0, 0, 0);
    for (int seed = 0; seed < 40; seed++) {
      none.eq(new int[] {0}, 40, seed * 7919);
    }
    yes("a digit of none", none.seen.contains("0 -1"));
    Trials digit = new Trials(GoalEdges::twoRows, 0, 0, 1, 0);
    for (int seed = 0; seed < 40; seed++) {
      digit.eq(new int[] {1}, 1, seed * 7919);
    }
    yes("a digit of one", digit.seen.contains("0 0"));
    String but63 = "i0,0;i1,1;k2,4;*1,1,2;*1,1,2;+0,0,1;k2,63;-0,0,2;a0;";
    Trials last = new Trials(() -> wide(but63), 4, 2, 0, 0);
    for (int seed = 0; seed < 300; seed++) {
      last.eq(new int[] {63}, 1, seed * 7919);
    }
    Pathwright x = wide(but63);
    x.keep(63);
    eq("the greatest of 4 digits becomes 0", x.fuzz(0, 1, last.seedOf("1 0", 63)) + ": "
        + keptOf(x), "1: 63 48");
    Pathwright y = wide(but63);
    y.keep(63);
    eq("the greatest of 2 digits becomes 0", y.fuzz(0, 1, last.seedOf("1 1", 63)) + ": "
        + keptOf(y), "1: 63 15");
    Pathwright z = wide(but63);
    z.keep(63);
    eq("the lowest digits of 4 by 2", z.fuzz(0, 1, last.seedOf("3 0 1", 63)) + ": "
        + keptOf(z), "1: 63 51");
  }

  private static Pathwright oneRow() {
    Pathwright x = fresh();
    for (int k = 0; k < 4; k++) {
      x.width(k, 0);
    }
    return put(x, 0, "o0;");
  }

  private static Pathwright twoRows() {
    Pathwright x = oneRow();
    x.width(2, 1);
    return put(x, 0, "i0,2;a0;");
  }

  private static Pathwright fixed(int value) {
    Pathwright x = with(BUT_27);
    x.fix(0, value);
    return x;
  }

  private static void rowsThatCome() {
    says("If the row that comes is let, and covers a goal that no kept row covers");
    for (int value = 0; value < 4; value++) {
      int at = value;
      Trials some = new Trials(() -> fixed(at), 2, 2, 1, 1);
      for (int seed = 0; seed < 100; seed++) {
        some.eq(new int[] {27}, 2, seed * 7919);
      }
    }
    int[] fifteen = {63, 62, 61, 60, 59, 58, 57, 56, 55, 54, 53, 52, 51, 50, 15};
    int[] sixteen = {63, 62, 61, 60, 59, 58, 57, 56, 55, 54, 53, 52, 51, 50, 49, 15};
    Trials many = new Trials(() -> wide(manyGoals()), 4, 2, 0, 0);
    int full = 0;
    for (int seed = 0; seed < 60; seed++) {
      full += many.eq(fifteen, 40, seed * 7919) == 16 ? 1 : 0;
      many.eq(sixteen, 40, seed * 7919);
      many.eq(new int[] {}, 40, seed * 7919);
    }
    yes("the last of 16 came, by many seeds", full > 20);
    eq("no goal that is new", with("i0,0;o0;").fuzz(0, 40, 3), 1);
    Trials sides = new Trials(() -> with("i0,0;k1,3;=2,0,1;?2;.;?2;:;o0;.;"), 2, 2, 1, 1);
    for (int seed = 0; seed < 60; seed++) {
      eq("a new side 0 is new once", sides.eq(new int[] {63}, 40, seed * 7919), 2);
      sides.eq(new int[] {1}, 40, seed * 7919);
    }
  }

  private static void smaller() {
    says("A row is made smaller: for each input from 0 on, its value becomes 0");
    Pathwright all = fresh();
    eq("all inputs", all.shrink(0, 63), 0);
    eq("none is less", all.shrink(0, 0), 0);
    Pathwright x = wide("i0,0;k2,5;<1,0,2;k3,1;-1,3,1;a1;");
    eq("15, its half, and one less again and again", x.shrink(0, 15), 5);
    eq("10, its half", x.shrink(0, 10), 5);
    eq("11, its half cut", x.shrink(0, 11), 5);
    eq("9, one less", x.shrink(0, 9), 5);
    eq("6, one less", x.shrink(0, 6), 5);
    eq("5 stays", x.shrink(0, 5), 5);
    eq("4 is of another end", x.shrink(0, 4), 0);
    eq("the other input, too", x.shrink(0, 63), 5);
    x.clear(0);
    put(x, 0, "i0,0;k1,1;-0,0,1;a0;");
    eq("2 to 0, of the same end", x.shrink(0, 2), 0);
    eq("1 of another end: nothing is smaller", x.shrink(0, 1), 1);
    x.clear(0);
    put(x, 0, "i0,0;k1,8;=2,0,1;k1,4;=3,0,1;|2,2,3;k1,7;=3,0,1;|2,2,3;a2;");
    eq("half ahead of one less", x.shrink(0, 8), 4);
    eq("7 has no half that is let through", x.shrink(0, 7), 7);
    x.fix(0, 7);
    eq("half is not let, one less is", x.shrink(0, 8), 7);
    x.fix(0, 8);
    eq("nothing less is let", x.shrink(0, 8), 8);
    x.clear(0);
    x.fix(0, 1);
    eq("of one that is not let, to one that is", x.shrink(0, 2), 1);
    eq("by its half, cut", x.shrink(0, 3), 1);
    eq("by none", x.shrink(0, 15), 15);
    eq("the input 1 is no help", x.shrink(0, 31), 31);
    x.free(0);
    Pathwright y = with("i0,0;i1,1;?0;?1;a7;.;a7;.;");
    eq("at the same statement alone", y.shrink(0, 0b11_11), 0b01_01);
    Pathwright again = with("i0,0;i1,1;<2,1,0;a2;");
    eq("from the input 0 again", again.shrink(0, 0b10_11), 0b00_01);
    Pathwright letter = with("i0,0;k1,3;k2,1;-1,0,1;*1,1,0;%3,2,1;");
    eq("2 ends with e, as 1 does", letter.shrink(0, 2), 1);
    eq("3 ends with z, as 0 does", letter.shrink(0, 3), 0);
  }

  private static void unlike() {
    says("By a row two programs are unlike if its walks by them end with unlike");
    Pathwright x = fresh();
    eq("two of nothing", x.unlike(), -1);
    put(x, 0, "i0,0;a0;");
    put(x, 1, "i0,0;k1,1;?0;.;");
    eq("the letters of ends", x.unlike(), 0);
    x.fix(0, 1);
    eq("not where they end, nor how", x.unlike(), -1);
    Pathwright y = with("o0;");
    put(y, 1, "o0;o0;");
    eq("one output more", y.unlike(), 0);
    y.drop(1, 0);
    eq("the same", y.unlike(), -1);
    put(y, 1, "k1,1;o1;");
    eq("one more in the second", y.unlike(), 0);
    Pathwright z = with("o0;".repeat(12));
    put(z, 1, "o0;".repeat(12) + "k0,5;o0;o0;");
    eq("beyond the first 12", z.unlike(), -1);
    z.clear(1);
    put(z, 1, "o0;".repeat(11) + "k0,5;o0;");
    eq("the twelfth", z.unlike(), 0);
    Pathwright w = with("k6,256;*6,6,6;o6;");
    put(w, 1, "o6;");
    eq("by the upper digits of 32 alone", w.unlike(), 0);
  }

  private static void goalsTold() {
    says(53, "Returns how many goals rows that are let cover.");
    eq("none", fresh().goals(0), 0);
    Pathwright x = wide(manyGoals());
    eq("of each row its own", x.goals(0), 8 + 32 + 16);
    x.fix(1, 1);
    eq("of those let", x.goals(0), 8 + 32);
    Pathwright full = with("i0,0;i7,1;" + "?0;.;".repeat(18) + "a7;a0;");
    eq("of 40 statements", full.goals(0), 2 + 36 + 4);
    Pathwright first = with("i0,0;i1,1;i2,2;i3,3;|0,0,1;|0,0,2;|0,0,3;?0;:;o0;.;");
    eq("one by the first row alone", first.goals(0), 7 + 2 + 1);
    eq("which it is", first.reaching(0, 9, 1), 0);
    Pathwright all = with("i0,0;?0;k1,1;:;k1,2;.;d0;o0;.;");
    eq("not :, . and d, nor what is never done", all.goals(0), 1 + 2 + 1 + 1);
    says(54, "Returns the row, -1 if there is none.");
    eq("never done", all.reaching(0, 7, 1), -1);
    eq("of :", all.reaching(0, 3, 1), -1);
    eq("no fork, no side 0", all.reaching(0, 0, 0), -1);
    eq("the row 0", all.reaching(0, 1, 0), 0);
    eq("the last statement", with("o0;".repeat(40)).reaching(0, 39, 1), 0);
    Pathwright last = with("i0,0;i1,1;i2,2;i3,3;*1,1,2;*1,1,3;k4,9;*0,0,1;=0,0,4;|0,0,0;?0;o0;.;");
    last.set(0, 6, 1, 9);
    eq("the last row alone", last.reaching(0, 11, 1), 63);
    last.fix(3, 0);
    eq("it is not let", last.reaching(0, 11, 1), -1);
    last.fix(3, 1);
    eq("of those let", last.reaching(0, 10, 0), 32);
  }

  private static void keptTold() {
    says(55, "Keeps a row; it stays as it is if the row is kept.");
    Pathwright x = fresh();
    eq("the first row", x.keep(0), 1);
    eq("the last row", x.keep(63), 2);
    eq("again", x.keep(0), 2);
    eq("its place stays", keptOf(x), "0 63");
    raises("behind the last", INDEX, x, () -> x.keep(64));
    raises("ahead of the first", INDEX, x, () -> x.keep(-1));
    x.fix(0, 1);
    eq("one that is not let", x.keep(2), 3);
    says(56, "Keeps no row any more.");
    x.unkeep();
    raises("none", INDEX, x, () -> x.kept(0));
    eq("from the first again", x.keep(5) + x.kept(0), 6);
    says(56, "Returns how many were kept.");
    eq("one", x.unkeep(), 1);
    eq("none", x.unkeep(), 0);
    for (int row = 0; row < 16; row++) {
      x.keep(row);
    }
    eq("16", x.unkeep(), 16);
    says(57, "Returns a kept row, in the order in which they were kept.");
    for (int row = 40; row > 24; row--) {
      x.keep(row);
    }
    eq("the first", x.kept(0), 40);
    eq("the last", x.kept(15), 25);
    raises("behind the last", INDEX, x, () -> x.kept(16));
    says(58, "Returns how many goals kept rows cover, whether they are let or not.");
    Pathwright y = with("i0,0;?0;o0;.;");
    eq("none is kept", y.covered(0), 0);
    y.keep(63);
    eq("one", y.covered(0), 3);
    y.fix(0, 0);
    eq("let or not", y.covered(0), 3);
    y.keep(0);
    eq("two", y.covered(0), 4);
    eq("of nothing", y.covered(1), 0);
  }

  private static void coverTold() {
    says(59, "Keeps a suite of rows in place of those that are kept.");
    Pathwright x = with("i0,0;o0;");
    for (int row = 63; row > 47; row--) {
      x.keep(row);
    }
    eq("in place of 16", x.suite(0) + ": " + keptOf(x), "1: 0");
    says(59, "Returns how many are kept then.");
    eq("none", x.suite(1), 0);
    eq("16", wide(manyGoals()).suite(0), 16);
    says(60, "Returns how many were kept besides.");
    Pathwright y = with(BUT_27);
    for (int row = 63; row > 48; row--) {
      y.keep(row);
    }
    eq("15 are kept, and none is new", y.fuzz(0, 40, 0) >= 0 ? y.fuzz(0, 1, 0) : -1, 0);
    Pathwright one = with(BUT_27);
    raises("0 rounds", ARGUMENT, one, () -> one.fuzz(0, 0, 1));
    raises("41 rounds", ARGUMENT, one, () -> one.fuzz(0, 41, 1));
    eq("1 round", one.fuzz(0, 1, 1), 1);
    eq("40 rounds", one.fuzz(0, 40, 1) <= 15 ? 1 : 0, 1);
  }

  private static void shrinkTold() {
    says(61, "Makes a row smaller; nothing changes.");
    Pathwright x = with("i0,0;i1,1;a0;");
    x.keep(63);
    x.fix(2, 1);
    long before = x.checksum();
    eq("it comes to", x.shrink(0, 63), 0b0_1_00_01);
    eq("what changes", x.checksum() - before, 0);
    says(62, "Returns the row, -1 if there is none.");
    Pathwright y = with("i0,0;i1,1;i2,2;i3,3;*1,1,2;*1,1,3;*0,0,1;k4,9;=0,0,4;o0;");
    put(y, 1, "o0;");
    eq("the last row", y.unlike(), 63);
    y.fix(2, 0);
    eq("none that is let", y.unlike(), -1);
    y.free(2);
    y.set(0, 7, 1, 0);
    eq("the first row", y.unlike(), 0);
    y.fix(0, 2);
    eq("the first that is let", y.unlike(), 2);
  }

  private static void checksum() {
    says(63, "Returns h, 0 at first, then 31 h and a number, wrapped, for each of");
    Pathwright x = fresh();
    List<Long> due = new ArrayList<>();
    int[] widths = {0, 3, 1, 2};
    int[] fixed = {0, -1, 1, 3};
    for (int k = 0; k < 4; k++) {
      x.width(k, 0);
    }
    for (int k = 0; k < 4; k++) {
      x.width(k, widths[k]);
      if (fixed[k] >= 0) {
        x.fix(k, fixed[k]);
      }
      due.add((long) widths[k]);
      due.add((long) fixed[k]);
    }
    due.add(24L);
    for (int n = 0; n < 24; n++) {
      x.number(MIN + n);
      due.add(num(MIN + n));
    }
    put(x, 1, "k7,-32768;".repeat(39) + "x7,2,7;");
    x.way(1, 's');
    x.limit(1, 'r', 6);
    x.limit(1, 's', 10);
    x.limit(1, 'b', 0);
    x.merge(1, true);
    addAll(due, 0, 'w', 4, 80, 6, 0, 40);
    for (int s = 0; s < 39; s++) {
      addAll(due, 'k', 7, -32768, 0);
    }
    addAll(due, 'x', 7, 2, 7, 's', 6, 10, 0, 1, 16);
    for (int row = 63; row > 47; row--) {
      x.keep(row);
      due.add((long) row);
    }
    due.add(240L);
    for (int n = 0; n < 60; n++) {
      x.type((char) 255, (char) 0, 'k', '#');
      x.type((char) 254, '#', '#', '#');
      addAll(due, 255, 0, 'k', 254);
    }
    long h = 0;
    for (long n : due) {
      h = 31 * h + n;
    }
    eq("all that is told, to the full", x.checksum(), h);
    eq("nothing is told", fresh().checksum(), sum(2, -1, 2, -1, 1, -1, 1, -1, 0,
        0, 'w', 4, 80, 6, 0, 0, 'w', 4, 80, 6, 0, 0, 0));
    Set<Long> all = new HashSet<>();
    Pathwright y = fresh();
    all.add(y.checksum());
    y.fix(0, 0);
    all.add(y.checksum());
    y.free(0);
    y.number(0);
    all.add(y.checksum());
    y.add(0, '.', 0, 0, 0);
    all.add(y.checksum());
    y.merge(1, true);
    all.add(y.checksum());
    y.keep(0);
    all.add(y.checksum());
    y.type((char) 0, '#', '#', '#');
    all.add(y.checksum());
    eq("a number of 0, too, tells", all.size(), 7);
  }

  private static void addAll(List<Long> due, int... numbers) {
    for (int n : numbers) {
      due.add((long) n);
    }
  }

  private static void theorem() {
    says(64, "Returns whether all is so; true for a row that is not let.");
    Pathwright x = with("i0,0;i1,1;?0;k2,1;:;?1;k2,2;.;.;/3,1,2;g4,0;o3;w0;k5,1;-0,0,5;.;");
    yes("of nothing, the first row", x.isTrue(1, 0));
    yes("of nothing, the last row", x.isTrue(1, 63));
    int all = 0;
    for (int merging = 0; merging < 2; merging++) {
      x.merge(0, merging == 1);
      for (char way : new char[] {'w', 's', 't'}) {
        x.way(0, way);
        for (int row = 0; row < 64; row++) {
          all += x.isTrue(0, row) ? 1 : 0;
        }
      }
    }
    eq("each row, by each way", all, 6 * 64);
    x.fix(0, 1);
    yes("one that is not let", x.isTrue(0, 0));
    yes("the first that is let", x.isTrue(0, 1));
    yes("the last that is not let", x.isTrue(0, 63));
    says(65, "Tries the theorem, (4), on a program.");
    yes("one input is fixed", x.goalsAreTrue(0));
    x.free(0);
    yes("none is fixed", x.goalsAreTrue(0));
    yes("of nothing", x.goalsAreTrue(1));
    yes("of many goals", wide(manyGoals()).goalsAreTrue(0));
  }
}
