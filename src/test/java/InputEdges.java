/** The edges of Part 1 and of the promises 1 to 7: inputs, widths, rows. */
final class InputEdges extends Edges {
  static void all() {
    isHeading("Part 1, rows.");
    fourInputs();
    numbersOfRows();
    rowsLet();
    newObject();
    width();
    widthTakesAway();
    fix();
    rowsAsked();
  }

  private static void fourInputs() {
    says("There are four inputs, 0 to 3, each with a width");
    Pathwright first = fresh();
    int[] greatest = {3, 3, 1, 1};
    for (int k = 0; k < 4; k++) {
      eq("greatest value of " + k + " at first", first.part(63, k), greatest[k]);
    }
    raises("input -1", INDEX, first, () -> first.part(0, -1));
    raises("input 4", INDEX, first, () -> first.part(0, 4));
    for (int k = 0; k < 4; k++) {
      Pathwright x = widths(0, 0, 0, 0);
      int input = k;
      raises("width -1", ARGUMENT, x, () -> x.width(input, -1));
      raises("width 5", ARGUMENT, x, () -> x.width(input, 5));
      for (int bits = 0; bits <= 4; bits++) {
        eq("rows by the width " + bits + " of " + k, x.width(k, bits), 1 << bits);
      }
    }
    for (int all = 0; all < 625; all++) {
      allTogether(new int[] {all % 5, all / 5 % 5, all / 25 % 5, all / 125});
    }
  }

  private static Pathwright widths(int... bits) {
    Pathwright x = fresh();
    for (int k = 0; k < 4; k++) {
      x.width(k, 0);
    }
    for (int k = 0; k < 4; k++) {
      x.width(k, bits[k]);
    }
    return x;
  }

  /** Widths one by one, from none on: the first that leads above 6 is refused. */
  private static void allTogether(int[] bits) {
    Pathwright x = widths(0, 0, 0, 0);
    int all = 0;
    for (int k = 0; k < 4; k++) {
      int input = k;
      if (all + bits[k] > 6) {
        raises("width " + bits[k] + " beside " + all, STATE, x, () -> x.width(input, bits[input]));
        return;
      }
      all += bits[k];
      eq("rows by " + all, x.width(k, bits[k]), 1 << all);
    }
    for (int k = 0; k < 4; k++) {
      eq("the width again that it has", x.width(k, bits[k]), 1 << all);
    }
  }

  private static void numbersOfRows() {
    says("A row gives to each input a number from 0 to 2 to the power");
    for (int k = 0; k < 4; k++) {
      for (int bits = 0; bits <= 4; bits++) {
        int[] all = {0, 0, 0, 0};
        all[k] = bits;
        all[(k + 1) % 4] = Math.min(4, 6 - bits);
        Pathwright x = widths(all);
        int least = 99;
        int greatest = -1;
        for (int row = 0; row < x.rows(); row++) {
          least = Math.min(least, x.part(row, k));
          greatest = Math.max(greatest, x.part(row, k));
        }
        eq("the least of " + bits + " digits", least, 0);
        eq("the greatest of " + bits + " digits", greatest, (1 << bits) - 1);
      }
    }
    says("Its number is the value of the input 0");
    for (int all = 0; all < 625; all++) {
      int[] bits = {all % 5, all / 5 % 5, all / 25 % 5, all / 125};
      if (bits[0] + bits[1] + bits[2] + bits[3] > 6) {
        continue;
      }
      Pathwright x = widths(bits);
      int same = 0;
      for (int row = 0; row < x.rows(); row++) {
        int number = x.part(row, 0) + (x.part(row, 1) << bits[0])
            + (x.part(row, 2) << bits[0] + bits[1])
            + (x.part(row, 3) << bits[0] + bits[1] + bits[2]);
        same += number == row ? 1 : 0;
      }
      eq("rows that are their numbers", same, 1 << bits[0] + bits[1] + bits[2] + bits[3]);
    }
  }

  private static void rowsLet() {
    says("An input can be fixed at a value.");
    for (int bits = 0; bits <= 4; bits++) {
      for (int k = 0; k < 4; k++) {
        int[] all = {0, 0, 0, 0};
        all[k] = bits;
        Pathwright x = widths(all);
        int input = k;
        int greatest = (1 << bits) - 1;
        eq("at 0", x.fix(k, 0), 1);
        eq("at the greatest", x.fix(k, greatest), 1);
        yes("the greatest row", x.isLet(greatest));
        raises("at -1", ARGUMENT, x, () -> x.fix(input, -1));
        raises("at one more", ARGUMENT, x, () -> x.fix(input, greatest + 1));
      }
    }
    says("A row is let if it gives to each input that is fixed this value.");
    for (int fixed = 0; fixed < 16; fixed++) {
      Pathwright x = fresh();
      int due = 64;
      for (int k = 0; k < 4; k++) {
        if ((fixed >> k & 1) == 1) {
          due = x.fix(k, k % 2);
        }
      }
      int let = 0;
      int same = 0;
      for (int row = 0; row < 64; row++) {
        boolean isDue = true;
        for (int k = 0; k < 4; k++) {
          isDue &= (fixed >> k & 1) == 0 || x.part(row, k) == k % 2;
        }
        let += x.isLet(row) ? 1 : 0;
        same += x.isLet(row) == isDue ? 1 : 0;
      }
      eq("rows told as they are", same, 64);
      eq("how many are let", let, due);
    }
    eq("none is fixed, all are let", fresh().free(0), 64);
    says("Of rows that is the least whose number is the least.");
    Pathwright x = fresh();
    for (int k = 0; k < 4; k++) {
      x.input(k);
    }
    eq("by the input 0", x.first(0), 1);
    eq("by the input 1", x.first(1), 4);
    eq("by the input 2", x.first(2), 16);
    eq("by the input 3", x.first(3), 32);
    eq("by one or the other", x.first(x.make('|', 3, 1)), 4);
  }

  private static void newObject() {
    says(1, "The widths are 2, 2, 1 and 1, no input is fixed; there are no terms");
    Pathwright x = fresh();
    eq("all of it", x.checksum(), sum(2, -1, 2, -1, 1, -1, 1, -1, 0,
        0, 'w', 4, 80, 6, 0, 0, 'w', 4, 80, 6, 0, 0, 0));
    eq("rows", x.rows(), 64);
    yes("no input is fixed: the first row", x.isLet(0));
    yes("no input is fixed: the last row", x.isLet(63));
    raises("no terms", INDEX, x, () -> x.sign(0));
    raises("no statements", INDEX, x, () -> x.look(0, 0, 0));
    raises("no statements in 1", INDEX, x, () -> x.look(1, 0, 0));
    raises("no kept rows", INDEX, x, () -> x.kept(0));
    eq("no letters", x.erase(), 0);
    no("0 does not merge", x.merge(0, false));
    no("1 does not merge", x.merge(1, false));
  }

  private static void width() {
    says(2, "Gives an input a width.");
    Pathwright x = widths(0, 0, 0, 0);
    eq("none at all", x.width(0, 0), 1);
    eq("4 and no other", x.width(0, 4), 16);
    eq("4 and 2", x.width(3, 2), 64);
    raises("4 and 2 and 1", STATE, x, () -> x.width(1, 1));
    raises("4 and 3", STATE, x, () -> x.width(3, 3));
    eq("the width that it has", x.width(3, 2), 64);
    raises("the width is out of range, and too much", ARGUMENT, x, () -> x.width(1, 5));
    Pathwright walked = with("i0,0;k1,4;<2,0,1;o0;o2;");
    put(walked, 1, "i1,1;o1;");
    eq("walks by the widths at first", walked.output(0, 63, 0) + " " + walked.output(1, 63, 0),
        "3 3");
    eq("terms by the widths at first", walked.outputSign(0, 0, 1), num(1));
    walked.width(1, 1);
    walked.width(0, 3);
    eq("walks by other widths", walked.output(0, 63, 0) + " " + walked.output(1, 63, 0), "7 1");
    eq("terms by other widths", walked.outputSign(0, 0, 1), let('<', in(0), num(4)));
    says(2, "Returns how many rows there are.");
    for (int bits = 0; bits <= 4; bits++) {
      eq("beside 2", x.width(0, bits), 4 << bits);
      eq("as rows tells", x.rows(), 4 << bits);
    }
  }

  private static void widthTakesAway() {
    says(2, "It is free then; all kept rows, all terms and what is typed stay");
    Pathwright x = fresh();
    x.fix(0, 3);
    x.fix(1, 2);
    x.width(0, 2);
    yes("free by the same width", x.isLet(0b0_0_10_00));
    no("the other one is fixed still", x.isLet(0));
    Pathwright y = fresh();
    for (int row = 63; row > 47; row--) {
      y.keep(row);
    }
    y.width(0, 2);
    eq("16 kept rows stay", y.keep(63), 16);
    y.unkeep();
    for (int row : new int[] {32, 31, 63, 0}) {
      y.keep(row);
    }
    y.width(2, 0);
    eq("the last row that is there stays", keptOf(y), "31 0");
    y.width(0, 3);
    eq("rows that are more stay away", keptOf(y), "31 0");
    for (int n = 0; n < 60; n++) {
      y.type('a', 'b', 'c', 'd');
    }
    y.width(1, 0);
    eq("240 letters stay", y.erase(), 240);
    eq("a row 8 above all is gone", y.rows() + ": " + keptOf(y), "16: 0");
    for (int n = 0; n < 24; n++) {
      y.input(n % 2 == 0 ? 0 : 3);
    }
    y.width(1, 1);
    eq("24 terms without it stay", y.sign(23), in(3));
    y.width(3, 1);
    eq("the first one stays alone", y.forget(), 1);
    termsTakenAway();
  }

  /** Each place at which an input can stand in a term. */
  private static void termsTakenAway() {
    for (int what = 0; what < 8; what++) {
      Pathwright x = fresh();
      x.input(0);
      x.number(70000);
      x.make('*', 0, 1);
      for (int n = 3; n < 10; n++) {
        x.number(n);
      }
      int k = x.input(1);
      int t = what == 0 ? x.make('+', k, 0) : what == 1 ? x.make('+', 0, k)
          : what == 2 ? x.choose(k, 0, 1) : what == 3 ? x.choose(0, k, 1)
          : what == 4 ? x.choose(0, 1, k) : what == 5 ? x.narrow('w', 16, x.make('*', k, 2))
          : what == 6 ? x.narrow('s', 16, x.make('-', 2, k)) : k;
      x.make('<', t, 0);
      x.width(1, 2);
      eq("those ahead of it stay, " + what, x.forget(), 10);
    }
    Pathwright x = fresh();
    x.input(1);
    x.make('-', 0, 0);
    x.number(5);
    x.width(1, 1);
    eq("what is behind it goes, with the input or not", x.forget(), 0);
    x.number(5);
    x.input(3);
    x.width(3, 0);
    x.input(3);
    eq("the next one has the number of the first that went", x.input(2), 2);
    Pathwright y = fresh();
    y.input(0);
    y.width(1, 0);
    y.width(0, 4);
    eq("made again by the new width", reachOf(y, y.input(0)), "0 to 15");
    y.number(5);
    y.width(0, 1);
    eq("and again", reachOf(y, y.input(0)), "0 to 1");
    y.forget();
    y.width(0, 3);
    eq("behind others that were forgotten", reachOf(y, y.input(0)), "0 to 7");
    int number = y.number(6);
    y.input(2);
    y.width(2, 2);
    eq("behind one that stays", reachOf(y, y.input(2)), "0 to 3");
    eq("the one that stays", reachOf(y, number), "6 to 6");
    y.number(9);
    y.number(10);
    eq("the one that stays, with others made then", reachOf(y, number), "6 to 6");
    y.width(2, 1);
    eq("with others behind it", reachOf(y, y.input(2)), "0 to 1");
    Pathwright z = fresh();
    int stays = z.input(1);
    z.input(0);
    z.width(0, 1);
    eq("one that stays is the same as one made then", z.sign(z.make('-', stays, z.input(1))),
        num(0));
  }

  private static void fix() {
    says(3, "Fixes an input at a value, in place of another one.");
    Pathwright x = fresh();
    x.fix(0, 0);
    x.fix(0, 3);
    no("not the one before", x.isLet(0));
    yes("the new one", x.isLet(3));
    says(3, "Returns how many rows are let then.");
    eq("one of four", x.fix(0, 3), 16);
    eq("and one of four", x.fix(1, 3), 4);
    eq("and one of two", x.fix(2, 1), 2);
    eq("all are fixed", x.fix(3, 1), 1);
    says(4, "Lets an input have all its values again.");
    for (int k = 0; k < 4; k++) {
      x.free(k);
    }
    yes("the least row", x.isLet(0));
    yes("the greatest row", x.isLet(63));
    says(4, "Returns how many rows are let then.");
    eq("free already", x.free(0), 64);
    x.fix(0, 0);
    x.fix(3, 1);
    eq("one is fixed still", x.free(0), 32);
    eq("none", x.free(3), 64);
  }

  private static void rowsAsked() {
    says(5, "Returns how many rows there are.");
    eq("no widths", widths(0, 0, 0, 0).rows(), 1);
    eq("6 together", widths(4, 0, 0, 2).rows(), 64);
    says(5, "Returns how many.");
    Pathwright x = fresh();
    x.fix(0, 1);
    eq("let or not", x.rows(), 64);
    says(6, "Returns what a row gives to an input.");
    eq("the first row", x.part(0, 3), 0);
    eq("the last row", x.part(63, 3), 1);
    raises("behind it", INDEX, x, () -> x.part(64, 3));
    raises("ahead of the first", INDEX, x, () -> x.part(-1, 3));
    eq("fixed or not", x.part(3, 0), 3);
    Pathwright one = widths(0, 0, 0, 0);
    eq("of no width", one.part(0, 2), 0);
    raises("the row 1 of one", INDEX, one, () -> one.part(1, 2));
    says(7, "Tells whether a row is let.");
    yes("the only row", one.isLet(0));
    raises("there is no other", INDEX, one, () -> one.isLet(1));
    raises("behind the last", INDEX, x, () -> x.isLet(64));
    yes("the last that is let", x.isLet(61));
    no("the last of all", x.isLet(63));
  }
}
