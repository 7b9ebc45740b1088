import java.lang.management.ManagementFactory;

/** The longest walks and the most terms, beside the oracle; and how much a long run makes. */
public final class LimitsTest {
  private static int wrong;
  private static boolean isThrough;

  // Five blocks of ? in two rounds of w: the most choices a step that sides meeting again make.
  private static final String DEEP =
      "k5,1;i0,0;i1,1;i2,2;k7,12;w7;-7,7,5;k6,12;w6;-6,6,5;"
      + "?0;+0,0,1;?1;p0,0,0;+1,1,2;?2;*3,0,1;p1,1,3;f2,1,1;?0;r0,1;^4,3,2;-2,4,0;"
      + "=1,2,3;p0,2,4;+3,3,4;.;.;.;.;o3;o4;.;.;";

  // As many forks of plain blocks as one round can have, not merged.
  private static final String MANY_FORKS =
      "k5,1;i0,0;i1,1;k7,12;w7;-7,7,5;" + "?0;.;?1;.;".repeat(8) + ".;";
  private static final String NESTED_FORKS =
      "k7,1;i0,0;w7;?7;" + "?7;.;".repeat(17) + ".;.;";

  // An element by a term, read and written again and again.
  private static final String ELEMENTS =
      "k5,1;i0,0;i1,1;k7,12;w7;-7,7,5;s0,1;s1,0;g2,1;+2,2,5;s1,2;g3,0;s0,3;*1,1,1;%1,1,3;.;o3;o2;";

  private static final String CALLS =
      "d0;k5,1;?0;-0,0,5;x1,0,0;*1,1,0;+1,1,5;.;v1;.;i0,0;i1,1;k6,12;k5,1;w6;-6,6,5;x2,0,0;"
      + "+3,3,2;x2,0,1;*3,3,2;.;o3;";

  public static void main(String[] args) throws Exception {
    // The oracle goes down terms by recursion.
    Thread thread = new Thread(null, LimitsTest::all, "limits", 1L << 28);
    thread.start();
    thread.join();
    boolean isGood = isThrough && wrong == 0;
    System.out.println(isGood ? "all limits hold" : wrong + " answers are wrong");
    System.exit(isGood ? 0 : 1);
  }

  private static void all() {
    String[] texts = {DEEP, MANY_FORKS, NESTED_FORKS, ELEMENTS, CALLS};
    for (String text : texts) {
      for (char way : new char[] {'w', 's', 't'}) {
        for (int merging = 0; merging < 2; merging++) {
          alike(text, way, merging == 1);
        }
      }
    }
    termsAgain();
    room();
    isThrough = true;
  }

  /** Terms are made, and taken away, and made again: their places are used again. */
  private static void termsAgain() {
    Pathwright x = new Pathwright();
    for (int round = 0; round < 500; round++) {
      x.number(round);
      x.input(round % 4);
      for (int n = 2; n < 24; n++) {
        x.make('-', n - 1, n - 2);
      }
      Oracle o = new Oracle();
      o.number(round);
      o.input(round % 4);
      for (int n = 2; n < 24; n++) {
        o.make('-', n - 1, n - 2);
      }
      eq("sign in round " + round, x.sign(23), o.sign(23));
      eq("size in round " + round, x.size(23), o.size(23));
      if (round % 2 == 0) {
        eq("forget in round " + round, x.forget(), 24);
      } else {
        x.width(round % 4, round % 4 < 2 ? 2 : 1);
        eq("left in round " + round, x.forget(), 1);
      }
    }
  }

  private static void eq(String what, long got, long due) {
    if (got != due) {
      wrong++;
      System.out.println(what + " answered " + got + ", due is " + due);
    }
  }

  private static void put(Pathwright x, Oracle o, String text) {
    for (String one : text.split(";")) {
      String[] parts = one.substring(1).split(",");
      int[] n = new int[3];
      for (int i = 0; i < parts.length && !parts[i].isEmpty(); i++) {
        n[i] = Integer.parseInt(parts[i]);
      }
      x.add(0, one.charAt(0), n[0], n[1], n[2]);
      if (o != null) {
        o.add(0, one.charAt(0), n[0], n[1], n[2]);
      }
    }
  }

  private static void setLimits(Pathwright x, char way, boolean merges) {
    x.way(0, way);
    x.merge(0, merges);
    x.limit(0, 's', 120);
    x.limit(0, 'b', 12);
    x.limit(0, 'r', 6);
  }

  private static void alike(String text, char way, boolean merges) {
    Pathwright x = new Pathwright();
    Oracle o = new Oracle();
    put(x, o, text);
    setLimits(x, way, merges);
    o.way(0, way);
    o.merge(0, merges);
    o.limit(0, 's', 120);
    o.limit(0, 'b', 12);
    o.limit(0, 'r', 6);
    String what = text.substring(0, 20) + ".. by " + way + (merges ? " merging" : "");
    eq(what + ": whole", x.check(0), -1);
    eq(what + ": paths", x.paths(0), o.paths(0));
    for (int row : new int[] {0, 1, 6, 27, 63}) {
      eq(what + ": end of " + row, x.end(0, row), o.end(0, row));
      eq(what + ": steps of " + row, x.steps(0, row), o.steps(0, row));
      eq(what + ": forks of " + row, x.forks(0, row), o.forks(0, row));
      eq(what + ": true for " + row, x.isTrue(0, row) ? 1 : 0, 1);
      int i = x.path(0, row);
      Oracle.TermWalk path = o.termWalk(0, i);
      eq(what + ": outputs of " + i, x.taken(0, i, 'o'), path.outs.size());
      for (int j = 0; j < path.outs.size(); j++) {
        eq(what + ": output " + j, x.outputSign(0, i, j), path.outs.get(j).sign);
      }
      eq(what + ": conditions of " + i, x.taken(0, i, 'c'), path.conditions.size());
      for (int j = 0; j < path.conditions.size(); j += 7) {
        Oracle.Condition c = path.conditions.get(j);
        eq(what + ": sign " + j, x.conditionSign(0, i, j), c.term.sign);
        eq(what + ": size " + j, x.condition(0, i, j, 'z'), Oracle.sizeOf(c.term));
      }
    }
  }

  private static long made() {
    return ((com.sun.management.ThreadMXBean) ManagementFactory.getThreadMXBean())
        .getThreadAllocatedBytes(Thread.currentThread().getId());
  }

  /** The room holds 600,000 objects and 7.3 million fields and elements: far more than this. */
  private static void room() {
    new Pathwright().isTrue(0, 0);
    long before = made();
    Pathwright x = new Pathwright();
    long atFirst = made() - before;
    put(x, null, DEEP);
    setLimits(x, 'w', true);
    before = made();
    for (int call = 0; call < 400; call++) {
      x.isTrue(0, call % 64);
      if (call % 8 == 0) {
        x.merge(0, call % 16 == 0);
        x.written(0, call);
      }
    }
    long later = made() - before;
    System.out.println("made at first " + atFirst + " bytes, then by 500 calls " + later);
    if (atFirst > 1_000_000 || later > 10_000_000) {
      wrong++;
      System.out.println("that is too much");
    }
  }
}
