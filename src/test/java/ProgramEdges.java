import java.util.HashSet;
import java.util.Set;

/** The edges of programs and texts in Part 3, and of the promises 21 to 35. */
final class ProgramEdges extends Edges {
  static void all() {
    isHeading("Part 3, programs.");
    programs();
    numbersNotHad();
    whole();
    textsWritten();
    textsRead();
    faults();
    added();
    changed();
    copied();
    looked();
    waysAndLimits();
    typed();
  }

  private static void programs() {
    says("There are two programs, 0 and 1.");
    Pathwright x = with("o1;");
    eq("the one", x.count(0), 1);
    eq("the other", x.count(1), 0);
    raises("-1", INDEX, x, () -> x.count(-1));
    raises("2", INDEX, x, () -> x.count(2));
    says("A program has a way, w, s or t, at first w; a row of numbers");
    for (int p = 0; p < 2; p++) {
      int program = p;
      eq("way at first", x.way(p, 'w'), 'w');
      eq("row at first", x.limit(p, 'r', 1), 4);
      eq("steps at first", x.limit(p, 's', 10), 80);
      eq("bound at first", x.limit(p, 'b', 0), 6);
      eq("the shortest row", x.limit(p, 'r', 6), 1);
      eq("the longest row", x.limit(p, 'r', 6), 6);
      eq("the fewest steps", x.limit(p, 's', 120), 10);
      eq("the most steps", x.limit(p, 's', 120), 120);
      eq("the least bound", x.limit(p, 'b', 12), 0);
      eq("the greatest bound", x.limit(p, 'b', 12), 12);
      for (int far : new int[] {0, 7, -1, MIN, MAX}) {
        raises("row " + far, ARGUMENT, x, () -> x.limit(program, 'r', far));
      }
      for (int far : new int[] {9, 121, 0, MIN, MAX}) {
        raises("steps " + far, ARGUMENT, x, () -> x.limit(program, 's', far));
      }
      for (int far : new int[] {-1, 13, MIN, MAX}) {
        raises("bound " + far, ARGUMENT, x, () -> x.limit(program, 'b', far));
      }
      for (char way = 0; way < 300; way++) {
        char w = way;
        Pathwright y = fresh();
        if ("wst".indexOf(w) < 0) {
          raises("way " + (int) w, ARGUMENT, y, () -> y.way(program, w));
        }
      }
    }
    Pathwright full = with("o0;".repeat(40));
    eq("40 statements", full.count(0), 40);
    raises("one more", STATE, full, () -> full.add(0, 'o', 0, 0, 0));
    raises("one more like another", STATE, full, () -> full.insert(0, 40, 0));
    eq("the last one", full.look(0, 39, 0), 'o');
    raises("there is no 40", INDEX, full, () -> full.look(0, 40, 0));
    full.drop(0, 0);
    eq("40 again", full.insert(0, 39, 0), 40);
  }

  private static void numbersNotHad() {
    says("A statement has a letter and up to three numbers x, y and z; one");
    for (String one : EVERY.split(";")) {
      int had = one.length() == 1 ? 0 : one.substring(1).split(",").length;
      for (int told : new int[] {MIN, -1, 1, 8, MAX}) {
        Pathwright x = fresh();
        x.add(1, one.charAt(0), had > 0 ? 1 : told, had > 1 ? 1 : told, had > 2 ? 1 : told);
        for (int which = 1; which <= 3; which++) {
          eq(one + ", number " + which + " told " + told, x.look(1, 0, which),
              which <= had ? 1 : 0);
        }
      }
    }
  }

  private static void check(String text, int due) {
    eq(text.isEmpty() ? "nothing" : text, with(text).check(0), due);
  }

  private static void whole() {
    says("A program is whole if, going through its statements: : comes only");
    check("", -1);
    check("?0;:;.;", -1);
    check(":;", 0);
    check("k0,1;:;", 1);
    check("w0;:;.;", 1);
    check("d0;:;.;", 1);
    check("?0;:;:;.;", 2);
    check("?0;w0;:;.;.;", 2);
    check("w0;?0;:;.;:;.;", 4);
    check("?0;:;?0;:;.;.;", -1);
    check("?0;:;?0;.;:;.;", 4);
    check("?0;?0;:;.;:;.;", -1);
    check("?0;.;:;", 2);
    check(".;", 0);
    check("?0;.;.;", 2);
    check("w0;.;.;", 2);
    check("d0;.;.;", 2);
    check("?0;:;.;.;", 3);
    check("?0;d0;.;.;", 1);
    check("w0;d0;.;.;", 1);
    check("d0;d1;.;.;", 1);
    check("?0;:;d0;.;.;", 2);
    check("?0;.;d0;.;", -1);
    check("d0;.;d0;.;", 2);
    check("d2;.;d1;.;d0;.;", -1);
    check("d2;.;d1;.;d0;.;d1;.;", 6);
    for (char last : new char[] {'?', 'w'}) {
      for (char first : new char[] {'?', 'w', 'd'}) {
        check(first + "0;" + "?0;".repeat(4) + last + "0;" + ".;".repeat(6), -1);
        check(first + "0;" + "w0;".repeat(5) + last + "0;" + ".;".repeat(7), 6);
      }
    }
    check("?0;".repeat(6) + ".;" + "?0;" + ".;".repeat(6), -1);
    check("?0;".repeat(6) + ".;" + "?0;w0;" + ".;".repeat(7), 8);
    check("?0;".repeat(6) + "d0;" + ".;".repeat(7), 6);
    check("x0,0,0;", 0);
    check("x0,0,0;d0;.;", -1);
    check("d0;.;x0,0,0;", -1);
    check("d0;x0,0,0;.;", -1);
    check("d0;.;d2;.;x0,1,0;", 4);
    check("d0;.;x0,0,0;x0,1,0;x0,2,0;d2;.;", 3);
    check("d0;.;d1;.;x0,2,0;", 4);
    for (int open = 1; open <= 6; open++) {
      check("?0;".repeat(open), open);
      check("w0;".repeat(open) + ".;".repeat(open - 1), 2 * open - 1);
    }
    check("d1;", 1);
    check("?0;:;", 2);
    check("?0;.;".repeat(20), -1);
    check("?0;.;".repeat(19) + "k0,0;?0;", 40);
  }

  private static void textsWritten() {
    says("The text of a program has for each statement its letter, its numbers");
    eq("every letter", textOf(with(EVERY), 0), EVERY);
    eq("none", textOf(fresh(), 0), "");
    for (int n : new int[] {0, 1, -1, 9, 10, -10, 100, -999, 1000, 9999, 10000, 32767, -32768}) {
      eq("a number", textOf(with("k7," + n + ";"), 0), "k7," + n + ";");
    }
    eq("no number", textOf(with(":;.;"), 0), ":;.;");
    says("The numbers of letters are those of Java's chars.");
    Pathwright x = with("|0,0,0;.;");
    eq("a letter", x.look(0, 0, 0), 124);
    eq("in a text", x.written(0, 0), 124);
    eq("a digit", x.written(0, 1), 48);
    eq("a comma", x.written(0, 2), 44);
    eq("an end", x.written(0, 6), 59);
    x.type((char) 0, (char) 255, '#', '#');
    eq("typed", x.checksum(), sum(2, -1, 2, -1, 1, -1, 1, -1, 0,
        2, 124, 0, 0, 0, 46, 0, 0, 0, 119, 4, 80, 6, 0, 0, 119, 4, 80, 6, 0, 0, 2, 0, 255));
  }

  private static int read(String text) {
    Pathwright x = with("o3;");
    typeAll(x, text);
    long before = x.checksum();
    int got = x.read(0);
    if (got < 0) {
      eq("what changes by " + text, x.checksum() - before, 0);
    } else {
      eq("what is read", textOf(x, 0), text);
    }
    return got;
  }

  private static void textsRead() {
    says("A text is one of a program if it is just that for at most 40");
    eq("none", read(""), 0);
    eq("40", read(".;".repeat(40)), 40);
    eq("41", read(".;".repeat(41)), -1 - 80);
    eq("each letter", read(EVERY), 27);
    String least = "k0,-32768;i0,0;f0,0,0;p0,0,0;r0,0;d0;x0,0,0;a0;";
    String greatest = "k7,32767;i7,3;f7,1,2;p1,2,7;r1,1;d2;x7,2,7;a7;";
    eq("the least numbers", read(least), 8);
    eq("the greatest numbers", read(greatest), 8);
    String[] beyond = {"k8,0;1", "k0,32768;7", "k0,-32769;8", "i0,4;3", "i8,0;1", "m0,8;3",
        "+0,8,0;3", "+0,0,8;5", "g0,8;3", "s8,0;1", "f0,2,0;3", "f0,0,3;5", "p2,0,0;1",
        "p0,3,0;3", "p0,0,8;5", "r2,0;1", "r0,2;3", "a8;1", "o8;1", "?8;1", "w8;1", "d3;1",
        "x8,0,0;1", "x0,3,0;3", "x0,0,8;5", "v8;1"};
    for (String one : beyond) {
      int end = one.indexOf(';') + 1;
      eq(one, read(one.substring(0, end)), -1 - Integer.parseInt(one.substring(end)));
    }
    eq("not whole", read("?0;:;"), 2);
  }

  /** All texts of one statement of each letter, v being 0 or 7, and all that begin one of them. */
  private static Set<String> beginnings() {
    Set<String> all = new HashSet<>();
    String[] v = {"0", "1", "2", "3", "4", "5", "6", "7"};
    for (int n = -32768; n <= 32767; n++) {
      begin(all, "k0," + n + ";");
    }
    for (String one : v) {
      begin(all, "k" + one + ",0;");
      for (char letter : "aow?v".toCharArray()) {
        begin(all, letter + one + ";");
      }
      for (String other : v) {
        for (char letter : "mgs".toCharArray()) {
          begin(all, letter + one + "," + other + ";");
        }
        for (String third : v) {
          for (char letter : "+-*/%&|^=<".toCharArray()) {
            begin(all, letter + one + "," + other + "," + third + ";");
          }
        }
        for (int d = 0; d < 3; d++) {
          begin(all, "x" + one + "," + d + "," + other + ";");
          begin(all, "p" + "0," + d + "," + other + ";");
          begin(all, "p" + "1," + d + "," + other + ";");
        }
      }
      for (int k = 0; k < 4; k++) {
        begin(all, "i" + one + "," + k + ";");
      }
      for (int d = 0; d < 3; d++) {
        begin(all, "f" + one + ",0," + d + ";");
        begin(all, "f" + one + ",1," + d + ";");
      }
    }
    for (String one : "r0,0; r0,1; r1,0; r1,1; d0; d1; d2; :; .;".split(" ")) {
      begin(all, one);
    }
    return all;
  }

  private static void begin(Set<String> all, String text) {
    for (int length = 0; length <= text.length(); length++) {
      all.add(text.substring(0, length));
    }
  }

  private static final String[] STARTS = {
    "", "k", "k7", "k0,", "k0,-", "k0,0", "k0,-1", "k0,9", "k0,3", "k0,-3", "k0,32", "k0,-32",
    "k0,327", "k0,-327", "k0,3276", "k0,-3276", "k0,3277", "k0,-3277", "k0,32767", "k0,-32768",
    "k0,1000", "k0,9999", "k0,10000", "k0,-29999", "i", "i7", "i7,", "i7,3", "m", "m7", "m7,",
    "m7,7", "+", "+7", "+7,", "+7,7", "+7,7,", "+7,7,7", "-", "-0,0", "-0,0,0", "=", "=0", "<0,",
    "g", "g7", "g7,", "g7,7", "s", "s7", "s7,", "s7,7", "f", "f7", "f7,", "f7,1", "f7,1,",
    "f7,1,2", "p", "p1", "p1,", "p1,2", "p1,2,", "p1,2,7", "r", "r1", "r1,", "r1,1", "a", "a7",
    "o", "o7", "?", "?7", "w", "w7", "d", "d2", "x", "x7", "x7,", "x7,2", "x7,2,", "x7,2,7",
    "v", "v7", ":", "."
  };

  private static void faults() {
    says("Its fault is the number, from 0, of the first letter with which no");
    Set<String> all = beginnings();
    Pathwright x = fresh();
    String ahead = "k0,-7;";
    for (String start : STARTS) {
      int bad = 0;
      for (char c = 0; c < 256; c++) {
        if (c == '#') {
          continue;
        }
        x = bad % 200 == 0 ? fresh() : x;
        x.erase();
        typeAll(x, ahead + start + c);
        int length = (ahead + start).length();
        boolean goesOn = all.contains(start + c);
        int due = !goesOn ? -1 - length : c == ';' ? 2 : -1 - length - 1;
        bad += x.read(0) == due ? 0 : 1;
      }
      eq("letters behind " + start + " told wrongly", bad, 0);
      x.erase();
      typeAll(x, ahead + start);
      eq("how many letters there are", x.read(0), start.isEmpty() ? 1 : -1 - 6 - start.length());
    }
    eq("behind 40 statements, any letter", read(".;".repeat(40) + "."), -81);
    eq("behind 40 statements, an end", read(".;".repeat(40) + ";"), -81);
    eq("the last of 240 letters", read("k0,-1000;".repeat(26) + "a0;:;;"), -240);
    eq("240 letters and no end", read("k0,-1000;".repeat(26) + "a0;:;v"), -241);
    eq("240 letters", read("k0,-1000;".repeat(26) + "i0,0;:"), -241);
    eq("240 letters, whole", read("k0,-1000;".repeat(26) + "a0;a0;"), 28);
    eq("noughts ahead", read("k0,007;"), -5);
    eq("a nought below 0", read("k0,-0;"), -5);
    eq("two signs", read("k0,--1;"), -5);
    eq("a sign for above 0", read("k0,+1;"), -4);
    eq("a sign where none can be", read("o-1;"), -2);
    eq("the first fault of two", read("k0,9;o9;o9;"), -7);
  }

  private static void added() {
    says(21, "Puts a statement behind the others of a program.");
    Pathwright x = fresh();
    x.add(1, 'o', 1, 0, 0);
    x.add(1, 'o', 2, 0, 0);
    eq("behind", textOf(x, 1), "o1;o2;");
    says(21, "Returns how many statements it has then.");
    for (int n = 1; n <= 40; n++) {
      eq("one more", x.add(0, '.', 0, 0, 0), n);
    }
    says(22, "Changes a number of a statement.");
    Pathwright y = with("k1,5;x1,1,1;:;p1,2,7;");
    y.set(0, 0, 1, -32768);
    y.set(0, 1, 0, 7);
    y.set(0, 1, 2, 0);
    y.set(0, 3, 0, 0);
    eq("just these", textOf(y, 0), "k1,-32768;x7,1,0;:;p0,2,7;");
    y.set(0, 0, 1, 32767);
    eq("the greatest", y.look(0, 0, 2), 32767);
    raises("one more", ARGUMENT, y, () -> y.set(0, 0, 1, 32768));
    raises("one less", ARGUMENT, y, () -> y.set(0, 0, 1, -32769));
    raises("z of k", ARGUMENT, y, () -> y.set(0, 0, 2, 0));
    raises("x of :", ARGUMENT, y, () -> y.set(0, 2, 0, 0));
    raises("which -1", INDEX, y, () -> y.set(0, 0, -1, 0));
    raises("which 3", INDEX, y, () -> y.set(0, 1, 3, 0));
    raises("behind the last statement", INDEX, y, () -> y.set(0, 4, 0, 0));
    says(22, "Returns what it was.");
    eq("it was the greatest", y.set(0, 0, 1, -32768), 32767);
    eq("it was the least", y.set(0, 0, 1, -32768), -32768);
  }

  private static void changed() {
    says(23, "Puts a statement that is like one that there is ahead of another one");
    Pathwright x = with("o0;o1;o2;");
    x.insert(0, 0, 2);
    eq("ahead of the first, like the last", textOf(x, 0), "o2;o0;o1;o2;");
    x.insert(0, 4, 1);
    eq("behind all", textOf(x, 0), "o2;o0;o1;o2;o0;");
    x.insert(0, 2, 2);
    eq("ahead of itself", textOf(x, 0), "o2;o0;o1;o1;o2;o0;");
    x.insert(0, 5, 0);
    eq("like one ahead of it", textOf(x, 0), "o2;o0;o1;o1;o2;o2;o0;");
    Pathwright three = with("+1,2,3;p1,2,4;k5,-6;");
    eq("a walk", ends(three, 0), "e 3");
    three.insert(0, 1, 0);
    three.insert(0, 0, 3);
    eq("with all its numbers", textOf(three, 0), "k5,-6;+1,2,3;+1,2,3;p1,2,4;k5,-6;");
    eq("a walk of what is there then", ends(three, 0), "e 5");
    three.drop(0, 1);
    eq("those behind one that went, with all their numbers", textOf(three, 0),
        "k5,-6;+1,2,3;p1,2,4;k5,-6;");
    eq("a walk of what is left", ends(three, 0), "e 4");
    raises("behind the end", INDEX, x, () -> x.insert(0, 8, 0));
    raises("like one that is not there", INDEX, x, () -> x.insert(0, 0, 7));
    raises("into nothing", INDEX, x, () -> x.insert(1, 0, 0));
    says(23, "Returns how many statements it has then.");
    Pathwright one = with("k3,-5;");
    for (int n = 2; n <= 40; n++) {
      eq("one more", one.insert(0, n % 2 == 0 ? n - 1 : 0, 0), n);
    }
    eq("all alike", textOf(one, 0), "k3,-5;".repeat(40));
    says(24, "Takes a statement away; those behind it get numbers 1 lower.");
    x.drop(0, 6);
    eq("the last", textOf(x, 0), "o2;o0;o1;o1;o2;o2;");
    x.drop(0, 0);
    eq("the first", textOf(x, 0), "o0;o1;o1;o2;o2;");
    x.drop(0, 1);
    eq("one between", textOf(x, 0), "o0;o1;o2;o2;");
    eq("its number is that of the next", x.look(0, 1, 1), 1);
    says(24, "Returns how many statements it has then.");
    eq("of 40", one.drop(0, 39), 39);
    for (int n = 38; n >= 0; n--) {
      eq("one less", one.drop(0, 0), n);
    }
    raises("none is left", INDEX, one, () -> one.drop(0, 0));
    says(25, "Takes all statements away.");
    x.way(0, 's');
    x.limit(0, 'b', 3);
    x.merge(0, true);
    x.clear(0);
    eq("no text", textOf(x, 0), "");
    eq("the way stays", x.way(0, 'w'), 's');
    eq("the bound stays", x.limit(0, 'b', 6), 3);
    yes("it merges still", x.merge(0, false));
    says(25, "Returns how many there were.");
    eq("none", x.clear(0), 0);
    eq("40", with("a0;".repeat(40)).clear(0), 40);
  }

  private static void copied() {
    says(26, "Makes the other program like this one, with its way, row, steps");
    for (int p = 0; p < 2; p++) {
      Pathwright x = fresh();
      put(x, p, "k1,-7;".repeat(40));
      put(x, 1 - p, "o0;");
      x.way(p, 't');
      x.limit(p, 'r', 1);
      x.limit(p, 's', 120);
      x.limit(p, 'b', 0);
      x.merge(p, true);
      eq("40 statements", x.copy(p), 40);
      eq("statements", textOf(x, 1 - p), "k1,-7;".repeat(40));
      eq("way", x.way(1 - p, 'w'), 't');
      eq("row", x.limit(1 - p, 'r', 4), 1);
      eq("steps", x.limit(1 - p, 's', 80), 120);
      eq("bound", x.limit(1 - p, 'b', 6), 0);
      yes("merges", x.merge(1 - p, false));
      eq("its own way is as it was", x.way(p, 't'), 't');
      x.set(1 - p, 39, 1, 3);
      eq("its own statements are as they were", x.look(p, 39, 2), -7);
      x.clear(1 - p);
      eq("none in place of 40", x.copy(1 - p), 0);
      eq("none", x.count(p), 0);
    }
    Pathwright x = with("?0;");
    x.copy(0);
    eq("one that is not whole", x.check(1), 1);
    Pathwright walked = with("o0;a0;");
    eq("a walk of the other, and a goal", walked.end(1, 0) + " " + walked.goals(1), "e 0");
    walked.copy(0);
    eq("walks like this one then", walked.end(1, 0) + " " + walked.goals(1), "a 2");
    says(26, "Returns how many statements it has.");
    eq("one", x.copy(1), 1);
    eq("none", fresh().copy(0), 0);
  }

  private static void looked() {
    says(27, "Returns how many statements a program has.");
    Pathwright x = with("a0;".repeat(40));
    eq("40", x.count(0), 40);
    says(27, "Returns how many.");
    eq("none", x.count(1), 0);
    says(28, "Returns a part of a statement.");
    Pathwright y = with("x7,2,6;");
    eq("0, the letter", y.look(0, 0, 0), 'x');
    eq("1, x", y.look(0, 0, 1), 7);
    eq("2, y", y.look(0, 0, 2), 2);
    eq("3, z", y.look(0, 0, 3), 6);
    raises("which -1", INDEX, y, () -> y.look(0, 0, -1));
    raises("which 4", INDEX, y, () -> y.look(0, 0, 4));
    raises("behind the last", INDEX, y, () -> y.look(0, 1, 0));
    raises("ahead of the first", INDEX, y, () -> y.look(0, -1, 0));
    says(28, "Returns the number; 0 for one that it does not have.");
    y.add(0, ':', 7, 7, 7);
    y.add(0, 'k', 7, 32767, 7);
    eq("x of :", y.look(0, 1, 1), 0);
    eq("y of :", y.look(0, 1, 2), 0);
    eq("z of :", y.look(0, 1, 3), 0);
    eq("z of k", y.look(0, 2, 3), 0);
    says(29, "Tells whether a program is whole.");
    eq("of nothing", fresh().check(1), -1);
    says(29, "Returns -1 if it is; otherwise the first statement that is not as");
    check("a0;", -1);
    check(".;:;", 0);
    check("a0;".repeat(39) + ".;", 39);
    check("a0;".repeat(39) + "?0;", 40);
    check("?0;x0,0,0;", 1);
    Pathwright z = with("x0,1,0;d0;.;");
    eq("no body", z.check(0), 0);
    z.set(0, 1, 0, 1);
    eq("after a change", z.check(0), -1);
    z.drop(0, 2);
    eq("after one went", z.check(0), 2);
    z.add(0, '.', 0, 0, 0);
    eq("after one came", z.check(0), -1);
    z.insert(0, 0, 2);
    eq("after one came ahead", z.check(0), 0);
    z.clear(0);
    eq("after all went", z.check(0), -1);
    typeAll(z, "?0;");
    z.read(0);
    eq("after a text was read", z.check(0), 1);
    z.copy(1);
    eq("after it was made like the other", z.check(0), -1);
  }

  private static void waysAndLimits() {
    says(30, "Returns the way that it had.");
    Pathwright x = fresh();
    String ways = "wwstwtss";
    for (int i = 1; i < ways.length(); i++) {
      eq("one by one", x.way(1, ways.charAt(i)), ways.charAt(i - 1));
    }
    eq("that of the other", x.way(0, 't'), 'w');
    says(31, "Returns what it was.");
    for (char what = 0; what < 300; what++) {
      char w = what;
      Pathwright y = fresh();
      if ("rsb".indexOf(w) < 0) {
        raises("what " + (int) w, ARGUMENT, y, () -> y.limit(0, w, 6));
      }
    }
    for (int value = 1; value <= 6; value++) {
      eq("row", x.limit(0, 'r', value), value == 1 ? 4 : value - 1);
    }
    for (int value = 10; value <= 120; value++) {
      eq("steps", x.limit(0, 's', value), value == 10 ? 80 : value - 1);
    }
    for (int value = 0; value <= 12; value++) {
      eq("bound", x.limit(0, 'b', value), value == 0 ? 6 : value - 1);
    }
    eq("row of the other", x.limit(1, 'r', 4), 4);
    eq("steps of the other", x.limit(1, 's', 80), 80);
    eq("bound of the other", x.limit(1, 'b', 6), 6);
  }

  private static void typed() {
    says(32, "Types letters behind those that are typed; each of the four that is");
    Pathwright x = fresh();
    int typed = 0;
    for (int c = 0; c < 65536; c++) {
      char letter = (char) c;
      int place = c % 4;
      int got = x.type(place == 0 ? letter : '#', place == 1 ? letter : '#',
          place == 2 ? letter : '#', place == 3 ? letter : '#');
      boolean isDue = got == (letter == '#' || c > 255 ? typed : typed + 1);
      if (!isDue || c == '#' || c == 0 || c == 255 || c == 256 || c == 65535) {
        eq("the sign " + c, got, letter == '#' || c > 255 ? typed : typed + 1);
      }
      typed = got;
      if (c % 200 == 199) {
        x = fresh();
        typed = 0;
      }
    }
    x = fresh();
    x.type('#', 'k', (char) 256, '0');
    x.type(',', '#', '5', ';');
    eq("in their order", x.read(0) + textOf(x, 0), "1k0,5;");
    typedFull();
    erasedAndRead();
  }

  private static void typedFull() {
    says(32, "Returns how many are typed then.");
    Pathwright x = fresh();
    eq("none", x.type('#', '#', '#', '#'), 0);
    eq("four", x.type('a', 'b', 'c', 'd'), 4);
    for (int n = 2; n < 60; n++) {
      x.type('a', 'b', 'c', 'd');
    }
    eq("239", x.type('a', '#', 'c', 'd'), 239);
    raises("241", STATE, x, () -> x.type('a', '#', '#', 'b'));
    raises("242", STATE, x, () -> x.type('#', 'a', 'b', 'c'));
    raises("243", STATE, x, () -> x.type('a', 'b', 'c', 'd'));
    eq("240", x.type('#', '#', 'z', '#'), 240);
    eq("240 and none", x.type('#', (char) 300, '#', '#'), 240);
    raises("240 and one", STATE, x, () -> x.type('#', '#', '#', 'a'));
    says(33, "Takes all typed letters away.");
    x.erase();
    eq("none is left", x.read(0), 0);
    eq("from the first again", x.type(':', ';', '#', '#'), 2);
    eq("nothing of the old ones", x.read(0), 1);
    says(33, "Returns how many there were.");
    eq("two", x.erase(), 2);
    eq("none", x.erase(), 0);
    Pathwright full = fresh();
    typeAll(full, "a".repeat(240));
    eq("240", full.erase(), 240);
  }

  private static void erasedAndRead() {
    says(34, "Makes a program of what is typed, in place of its statements");
    Pathwright y = with("a0;".repeat(40));
    y.way(0, 't');
    y.limit(0, 's', 10);
    y.merge(0, true);
    typeAll(y, "o1;");
    y.read(0);
    eq("in place of 40", textOf(y, 0), "o1;");
    eq("the way stays", y.way(0, 'w'), 't');
    eq("the steps stay", y.limit(0, 's', 80), 10);
    yes("it merges still", y.merge(0, false));
    eq("the other one stays", y.count(1), 0);
    y.read(1);
    eq("the letters stay", textOf(y, 1) + y.erase(), "o1;3");
    eq("a walk", ends(y, 0), "e 1");
    typeAll(y, "x7,2,7;d2;.;");
    y.read(0);
    eq("a walk of what was read", ends(y, 0), "e 3");
    y.erase();
    typeAll(y, "a1;o1;:;");
    y.read(0);
    eq("numbers that it does not have, of a longer one before", y.look(0, 0, 2) + y.look(0, 0, 3)
        + y.look(0, 2, 1) + y.look(0, 2, 2), 0);
    y.erase();
    says(34, "Returns how many statements it has; if they are no text of a");
    eq("none", y.read(0), 0);
    eq("in place of one", y.count(0), 0);
    eq("the first letter", read("!"), -1);
    eq("the second letter", read("o"), -2);
    eq("one", read("o0;"), 1);
    says(35, "Returns a letter of the text of a program.");
    Pathwright z = with("k0,-32768;".repeat(40));
    eq("the first", z.written(0, 0), 'k');
    eq("the last of 400", z.written(0, 399), ';');
    says(35, "Returns the letter as a number; -1 if there is none with this");
    eq("behind the last", z.written(0, 400), -1);
    eq("ahead of the first", z.written(0, -1), -1);
    eq("far", z.written(0, MAX), -1);
    eq("far below", z.written(0, MIN), -1);
    eq("of nothing", z.written(1, 0), -1);
  }
}
