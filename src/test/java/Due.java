import java.util.NoSuchElementException;

/** What the tests of answers have in common: what is due, programs as texts, signs of terms. */
abstract class Due {
  static final long Q = 1000003L;
  static final Class<?> INDEX = IndexOutOfBoundsException.class;
  static final Class<?> ARGUMENT = IllegalArgumentException.class;
  static final Class<?> STATE = IllegalStateException.class;
  static final Class<?> ELEMENT = NoSuchElementException.class;
  static final int MIN = Integer.MIN_VALUE;
  static final int MAX = Integer.MAX_VALUE;

  /** A statement of each letter, as a text. */
  static final String EVERY =
      "k0,-5;i1,2;m2,3;+1,2,3;-1,2,3;*1,2,3;/1,2,3;%1,2,3;&1,2,3;|1,2,3;^1,2,3;=1,2,3;<1,2,3;"
      + "g1,2;s1,2;f1,1,2;p1,2,3;r0,1;a1;o1;?1;w1;d1;x1,2,3;v1;:;.;";

  static int wrong;
  static int asked;

  /** What is told ahead of each wrong answer: which sentence is asked. */
  static String now = "";

  interface Call {
    void make() throws Exception;
  }

  // ---- what is due

  static void eq(String what, long got, long due) {
    asked++;
    if (got != due) {
      wrong++;
      System.out.println(now + what + " answered " + got + ", due is " + due);
    }
  }

  static void eq(String what, String got, String due) {
    asked++;
    if (!got.equals(due)) {
      wrong++;
      System.out.println(now + what + " answered " + got + ", due is " + due);
    }
  }

  static void yes(String what, boolean got) {
    eq(what, got ? 1 : 0, 1);
  }

  static void no(String what, boolean got) {
    eq(what, got ? 1 : 0, 0);
  }

  /** The call throws just this, thrown by the class itself, and changes nothing. */
  static void raises(String what, Class<?> due, Pathwright x, Call call) {
    asked++;
    long before = x.checksum();
    Throwable got = null;
    try {
      call.make();
    } catch (Exception e) {
      got = e;
    }
    if (!isBy(got, due) || x.checksum() != before) {
      wrong++;
      System.out.println(now + what + " threw " + got + ", due is " + due.getSimpleName()
          + (x.checksum() == before ? "" : "; and it changed something"));
    }
  }

  /** Thrown by a throw of the class: neither by the machine nor by the library. */
  static boolean isBy(Throwable got, Class<?> due) {
    return got != null && got.getClass() == due
        && got.getStackTrace()[0].getClassName().startsWith("Pathwright");
  }

  // ---- programs

  static Pathwright fresh() {
    return new Pathwright();
  }

  /** Puts statements, written as in a text, behind those of a program. */
  static Pathwright put(Pathwright x, int p, String text) {
    for (String one : text.isEmpty() ? new String[0] : text.split(";")) {
      String[] parts = one.substring(1).split(",");
      int[] n = new int[3];
      for (int i = 0; i < 3 && !one.substring(1).isEmpty() && i < parts.length; i++) {
        n[i] = Integer.parseInt(parts[i]);
      }
      x.add(p, one.charAt(0), n[0], n[1], n[2]);
    }
    return x;
  }

  static Pathwright with(String text) {
    return put(fresh(), 0, text);
  }

  static Pathwright way(char way, String text) {
    Pathwright x = with(text);
    x.way(0, way);
    return x;
  }

  static Pathwright merging(String text) {
    Pathwright x = with(text);
    x.merge(0, true);
    return x;
  }

  static void typeAll(Pathwright x, String text) {
    for (int i = 0; i < text.length(); i++) {
      x.type(text.charAt(i), '#', '#', '#');
    }
  }

  static String textOf(Pathwright x, int p) {
    StringBuilder text = new StringBuilder();
    for (int i = 0; x.written(p, i) >= 0; i++) {
      text.append((char) x.written(p, i));
    }
    return text.toString();
  }

  /** The outputs of a walk, with a blank between two of them. */
  static String outs(Pathwright x, int row) {
    StringBuilder text = new StringBuilder();
    for (int i = 0; i < x.outputs(0, row); i++) {
      text.append(i == 0 ? "" : " ").append(x.output(0, row, i));
    }
    return text.toString();
  }

  /** How a walk ends and where. */
  static String ends(Pathwright x, int row) {
    return x.end(0, row) + " " + x.where(0, row);
  }

  /** Which goals a walk covers: for each statement 1, 0, both (2) or none (-). */
  static String covers(Pathwright x, int row) {
    StringBuilder got = new StringBuilder();
    for (int s = 0; s < x.count(0); s++) {
      boolean isOne = x.goes(0, row, s, 1);
      boolean isNought = x.goes(0, row, s, 0);
      got.append(isOne && isNought ? '2' : isOne ? '1' : isNought ? '0' : '-');
    }
    return got.toString();
  }

  static String keptOf(Pathwright x) {
    StringBuilder text = new StringBuilder();
    int count = x.keep(x.kept(0));
    for (int i = 0; i < count; i++) {
      text.append(i == 0 ? "" : " ").append(x.kept(i));
    }
    return text.toString();
  }

  // ---- signs

  static long num(long n) {
    return n * Q + 1;
  }

  static long in(int k) {
    return k * Q + 2;
  }

  static long let(char c, long x, long y) {
    return ((c * Q + x) * Q + y) * Q + 3;
  }

  static long pick(long c, long x, long y) {
    return ((c * Q + x) * Q + y) * Q + 4;
  }

  static long wrap(int bits, long x) {
    return (x * Q + bits) * Q + 5;
  }

  static long cut(int bits, long x) {
    return (x * Q + bits) * Q + 6;
  }

  static long sum(long... numbers) {
    long h = 0;
    for (long n : numbers) {
      h = 31 * h + n;
    }
    return h;
  }
}
