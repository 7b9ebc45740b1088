import java.math.BigInteger;
import java.util.ArrayList;
import java.util.Arrays;
import java.util.HashMap;
import java.util.HashSet;
import java.util.IdentityHashMap;
import java.util.LinkedHashMap;
import java.util.List;
import java.util.Map;
import java.util.NoSuchElementException;
import java.util.Set;
import java.util.TreeSet;
import java.util.regex.Matcher;
import java.util.regex.Pattern;

/**
 * The document once more, slow and by other means: blocks as trees, walks by recursion, numbers of
 * any size, texts by a pattern, nothing kept from call to call. RandomRunsTest sets it beside the
 * class.
 */
public final class Oracle {
  // ---- terms

  /** A term; interned, so that two terms are the same just if they are one object. */
  static final class Term {
    final String op;
    final Term[] kids;
    final BigInteger number;
    final int extra;
    final BigInteger lo;
    final BigInteger hi;
    final long sign;

    Term(String op, BigInteger number, int extra, BigInteger lo, BigInteger hi, long sign,
        Term... kids) {
      this.op = op;
      this.number = number;
      this.extra = extra;
      this.lo = lo;
      this.hi = hi;
      this.sign = sign;
      this.kids = kids;
    }

    boolean isNumber() {
      return op.equals("number");
    }

    boolean is(long n) {
      return isNumber() && number.equals(big(n));
    }
  }

  static final long Q = 1000003L;

  static BigInteger big(long n) {
    return BigInteger.valueOf(n);
  }

  final Map<List<Object>, Term> known = new HashMap<>();

  private Term intern(List<Object> key, Term term) {
    Term there = known.putIfAbsent(key, term);
    return there == null ? term : there;
  }

  Term numberTerm(BigInteger n) {
    return intern(List.of("number", n),
        new Term("number", n, 0, n, n, n.longValueExact() * Q + 1));
  }

  Term numberTerm(long n) {
    return numberTerm(big(n));
  }

  Term inputTerm(int k) {
    BigInteger hi = big((1 << widths[k]) - 1);
    return intern(List.of("input", k, hi),
        new Term("input", null, k, BigInteger.ZERO, hi, k * Q + 2));
  }

  Term chooseTerm(Term c, Term x, Term y) {
    if (c.isNumber()) {
      return c.number.signum() != 0 ? x : y;
    }
    if (x == y) {
      return x;
    }
    if (c.lo.signum() > 0 || c.hi.signum() < 0) {
      return x;
    }
    return intern(Arrays.asList("choice", c, x, y),
        new Term("choice", null, 0, x.lo.min(y.lo), x.hi.max(y.hi),
            ((c.sign * Q + x.sign) * Q + y.sign) * Q + 4, c, x, y));
  }

  static BigInteger leastOf(int bits) {
    return BigInteger.ONE.shiftLeft(bits - 1).negate();
  }

  static BigInteger greatestOf(int bits) {
    return BigInteger.ONE.shiftLeft(bits - 1).subtract(BigInteger.ONE);
  }

  static BigInteger narrowNumber(char how, int bits, BigInteger n) {
    if (how == 's') {
      return n.max(leastOf(bits)).min(greatestOf(bits));
    }
    BigInteger low = n.mod(BigInteger.ONE.shiftLeft(bits));
    return low.testBit(bits - 1) ? low.subtract(BigInteger.ONE.shiftLeft(bits)) : low;
  }

  static boolean fits(BigInteger n, int bits) {
    return n.compareTo(leastOf(bits)) >= 0 && n.compareTo(greatestOf(bits)) <= 0;
  }

  Term narrowTerm(char how, int bits, Term x) {
    if (fits(x.lo, bits) && fits(x.hi, bits)) {
      return x;
    }
    if (x.isNumber()) {
      return numberTerm(narrowNumber(how, bits, x.number));
    }
    return intern(Arrays.asList("narrow", how, bits, x),
        new Term("narrow" + how, null, bits, leastOf(bits), greatestOf(bits),
            (x.sign * Q + bits) * Q + (how == 'w' ? 5 : 6), x));
  }

  static BigInteger compute(char letter, BigInteger x, BigInteger y) {
    switch (letter) {
      case '+': return x.add(y);
      case '-': return x.subtract(y);
      case '*': return x.multiply(y);
      case '/': return y.signum() == 0 ? BigInteger.ZERO : x.divide(y);
      case '%': return y.signum() == 0 ? BigInteger.ZERO : x.remainder(y);
      case '&': return x.and(y);
      case '|': return x.or(y);
      case '^': return x.xor(y);
      case '=': return x.equals(y) ? BigInteger.ONE : BigInteger.ZERO;
      case '<': return x.compareTo(y) < 0 ? BigInteger.ONE : BigInteger.ZERO;
      default: throw new AssertionError(letter);
    }
  }

  Term letterTerm(char letter, Term x, Term y) {
    if (letter != '=' && letter != '<') {
      x = narrowTerm('w', 32, x);
      y = narrowTerm('w', 32, y);
    }
    if (x.isNumber() && y.isNumber()) {
      return numberTerm(compute(letter, x.number, y.number));
    }
    boolean same = x == y;
    Term zero = numberTerm(0);
    Term one = numberTerm(1);
    if (letter == '+' && x.is(0)) return y;
    if (letter == '+' && y.is(0)) return x;
    if (letter == '-' && y.is(0)) return x;
    if (letter == '-' && same) return zero;
    if (letter == '*' && (x.is(0) || y.is(0))) return zero;
    if (letter == '*' && x.is(1)) return y;
    if (letter == '*' && y.is(1)) return x;
    if (letter == '/' && x.is(0)) return zero;
    if (letter == '/' && y.is(1)) return x;
    if (letter == '%' && (x.is(0) || y.is(1))) return zero;
    if (letter == '&' && (x.is(0) || y.is(0))) return zero;
    if (letter == '&' && same) return x;
    if (letter == '|' && x.is(0)) return y;
    if (letter == '|' && y.is(0)) return x;
    if (letter == '|' && same) return x;
    if (letter == '^' && x.is(0)) return y;
    if (letter == '^' && y.is(0)) return x;
    if (letter == '^' && same) return zero;
    if (letter == '=' && same) return one;
    if (letter == '=' && x.lo.max(y.lo).compareTo(x.hi.min(y.hi)) > 0) return zero;
    if (letter == '<' && same) return zero;
    if (letter == '<' && x.hi.compareTo(y.lo) < 0) return one;
    if (letter == '<' && x.lo.compareTo(y.hi) >= 0) return zero;
    BigInteger[] reach = reachOf(letter, x, y);
    return intern(Arrays.asList("letter", letter, x, y),
        new Term(String.valueOf(letter), null, 0, reach[0], reach[1],
            ((letter * Q + x.sign) * Q + y.sign) * Q + 3, x, y));
  }

  static BigInteger[] reachOf(char letter, Term x, Term y) {
    BigInteger zero = BigInteger.ZERO;
    boolean up = x.lo.signum() >= 0 && y.lo.signum() >= 0;
    BigInteger amountX = x.lo.abs().max(x.hi.abs());
    BigInteger amountY = y.lo.abs().max(y.hi.abs());
    switch (letter) {
      case '+': return new BigInteger[] {x.lo.add(y.lo), x.hi.add(y.hi)};
      case '-': return new BigInteger[] {x.lo.subtract(y.hi), x.hi.subtract(y.lo)};
      case '*':
        TreeSet<BigInteger> ends = new TreeSet<>(List.of(x.lo.multiply(y.lo)));
        ends.add(x.lo.multiply(y.hi));
        ends.add(x.hi.multiply(y.lo));
        ends.add(x.hi.multiply(y.hi));
        return new BigInteger[] {ends.first(), ends.last()};
      case '/':
        return up ? new BigInteger[] {zero, x.hi} : new BigInteger[] {amountX.negate(), amountX};
      case '%':
        BigInteger m = amountY.signum() == 0 ? zero : amountY.subtract(BigInteger.ONE);
        return x.lo.signum() >= 0
            ? new BigInteger[] {zero, m.min(x.hi)}
            : new BigInteger[] {m.negate(), m};
      case '&':
        if (up) return new BigInteger[] {zero, x.hi.min(y.hi)};
        if (x.lo.signum() >= 0) return new BigInteger[] {zero, x.hi};
        if (y.lo.signum() >= 0) return new BigInteger[] {zero, y.hi};
        return new BigInteger[] {leastOf(32), greatestOf(32)};
      case '|':
      case '^':
        if (!up) return new BigInteger[] {leastOf(32), greatestOf(32)};
        int k = x.hi.max(y.hi).bitLength();
        return new BigInteger[] {zero, BigInteger.ONE.shiftLeft(k).subtract(BigInteger.ONE)};
      default: return new BigInteger[] {zero, BigInteger.ONE};
    }
  }

  BigInteger eval(Term t, int row, Map<Term, BigInteger> memo) {
    BigInteger there = memo.get(t);
    if (there != null) {
      return there;
    }
    BigInteger v;
    if (t.isNumber()) {
      v = t.number;
    } else if (t.op.equals("input")) {
      v = big(valuesOf(row)[t.extra]);
    } else if (t.op.equals("choice")) {
      boolean holds = eval(t.kids[0], row, memo).signum() != 0;
      v = eval(t.kids[holds ? 1 : 2], row, memo);
    } else if (t.op.startsWith("narrow")) {
      v = narrowNumber(t.op.charAt(6), t.extra, eval(t.kids[0], row, memo));
    } else {
      v = compute(t.op.charAt(0), eval(t.kids[0], row, memo), eval(t.kids[1], row, memo));
    }
    memo.put(t, v);
    return v;
  }

  BigInteger eval(Term t, int row) {
    return eval(t, row, new IdentityHashMap<>());
  }

  static void collect(Term t, Set<Term> into) {
    if (into.add(t)) {
      for (Term kid : t.kids) {
        collect(kid, into);
      }
    }
  }

  static int sizeOf(Term t) {
    Set<Term> all = new HashSet<>();
    collect(t, all);
    return all.size();
  }

  // ---- state

  int[] widths = {2, 2, 1, 1};
  int[] fixed = {-1, -1, -1, -1};
  List<Term> terms = new ArrayList<>();
  Prog[] progs = {new Prog(), new Prog()};
  List<Integer> keptRows = new ArrayList<>();
  StringBuilder typed = new StringBuilder();

  static final class Prog {
    List<int[]> st = new ArrayList<>();
    char way = 'w';
    int r = 4;
    int s = 80;
    int b = 6;
    boolean merges;
  }

  static final Map<Character, String> SHAPES = new LinkedHashMap<>();

  static {
    SHAPES.put('k', "vn");
    SHAPES.put('i', "vi");
    SHAPES.put('m', "vv");
    for (char c : "+-*/%&|^=<".toCharArray()) {
      SHAPES.put(c, "vvv");
    }
    SHAPES.put('g', "vv");
    SHAPES.put('s', "vv");
    SHAPES.put('f', "vrd");
    SHAPES.put('p', "rdv");
    SHAPES.put('r', "rr");
    SHAPES.put('a', "v");
    SHAPES.put('o', "v");
    SHAPES.put('?', "v");
    SHAPES.put('w', "v");
    SHAPES.put('d', "d");
    SHAPES.put('x', "vdv");
    SHAPES.put('v', "v");
    SHAPES.put(':', "");
    SHAPES.put('.', "");
  }

  static boolean inRange(char kind, int n) {
    switch (kind) {
      case 'v': return n >= 0 && n <= 7;
      case 'n': return n >= -32768 && n <= 32767;
      case 'i': return n >= 0 && n <= 3;
      case 'r': return n >= 0 && n <= 1;
      case 'd': return n >= 0 && n <= 2;
      default: throw new AssertionError(kind);
    }
  }

  static IndexOutOfBoundsException noIndex() {
    return new IndexOutOfBoundsException();
  }

  static void index(boolean ok) {
    if (!ok) throw noIndex();
  }

  static void arg(boolean ok) {
    if (!ok) throw new IllegalArgumentException();
  }

  static void state(boolean ok) {
    if (!ok) throw new IllegalStateException();
  }

  static void element(boolean ok) {
    if (!ok) throw new NoSuchElementException();
  }

  // ---- inputs

  int bits() {
    return Arrays.stream(widths).sum();
  }

  public int rows() {
    return 1 << bits();
  }

  int[] valuesOf(int row) {
    int[] values = new int[4];
    for (int k = 0; k < 4; k++) {
      values[k] = row % (1 << widths[k]);
      row /= 1 << widths[k];
    }
    return values;
  }

  int rowOf(int[] values) {
    int row = 0;
    for (int k = 3; k >= 0; k--) {
      row = row * (1 << widths[k]) + values[k];
    }
    return row;
  }

  boolean let(int row) {
    int[] values = valuesOf(row);
    for (int k = 0; k < 4; k++) {
      if (fixed[k] >= 0 && fixed[k] != values[k]) return false;
    }
    return true;
  }

  List<Integer> letRows() {
    List<Integer> all = new ArrayList<>();
    for (int row = 0; row < rows(); row++) {
      if (let(row)) all.add(row);
    }
    return all;
  }

  boolean isRow(int row) {
    return row >= 0 && row < rows();
  }

  public int width(int k, int bits) {
    index(k >= 0 && k <= 3);
    arg(bits >= 0 && bits <= 4);
    state(bits() - widths[k] + bits <= 6);
    for (int i = 0; i < terms.size(); i++) {
      Set<Term> all = new HashSet<>();
      collect(terms.get(i), all);
      if (all.stream().anyMatch(t -> t.op.equals("input") && t.extra == k)) {
        terms = new ArrayList<>(terms.subList(0, i));
      }
    }
    widths[k] = bits;
    fixed[k] = -1;
    keptRows.removeIf(row -> row >= rows());
    return rows();
  }

  public int fix(int k, int value) {
    index(k >= 0 && k <= 3);
    arg(value >= 0 && value < 1 << widths[k]);
    fixed[k] = value;
    return letRows().size();
  }

  public int free(int k) {
    index(k >= 0 && k <= 3);
    fixed[k] = -1;
    return letRows().size();
  }

  public int part(int row, int k) {
    index(isRow(row) && k >= 0 && k <= 3);
    return valuesOf(row)[k];
  }

  public boolean isLet(int row) {
    index(isRow(row));
    return let(row);
  }

  // ---- the calls on terms

  void isTerm(int x) {
    index(x >= 0 && x < terms.size());
  }

  int put(Term t) {
    terms.add(t);
    return terms.size() - 1;
  }

  public int number(int value) {
    state(terms.size() < 24);
    return put(numberTerm(value));
  }

  public int input(int k) {
    index(k >= 0 && k <= 3);
    state(terms.size() < 24);
    return put(inputTerm(k));
  }

  public int make(char letter, int x, int y) {
    isTerm(x);
    isTerm(y);
    arg("+-*/%&|^=<".indexOf(letter) >= 0);
    state(terms.size() < 24);
    return put(letterTerm(letter, terms.get(x), terms.get(y)));
  }

  public int choose(int c, int x, int y) {
    isTerm(c);
    isTerm(x);
    isTerm(y);
    state(terms.size() < 24);
    return put(chooseTerm(terms.get(c), terms.get(x), terms.get(y)));
  }

  public int narrow(char how, int bits, int x) {
    isTerm(x);
    arg(how == 'w' || how == 's');
    arg(bits == 16 || bits == 32);
    state(terms.size() < 24);
    return put(narrowTerm(how, bits, terms.get(x)));
  }

  public int forget() {
    int had = terms.size();
    terms.clear();
    return had;
  }

  public int size(int x) {
    isTerm(x);
    return sizeOf(terms.get(x));
  }

  public long sign(int x) {
    isTerm(x);
    return terms.get(x).sign;
  }

  public long reach(int x, char end) {
    isTerm(x);
    arg(end == 'l' || end == 'g');
    return (end == 'l' ? terms.get(x).lo : terms.get(x).hi).longValueExact();
  }

  public long value(int x, int row) {
    isTerm(x);
    index(isRow(row));
    return eval(terms.get(x), row).longValueExact();
  }

  public int first(int x) {
    isTerm(x);
    return letRows().stream().filter(r -> eval(terms.get(x), r).signum() != 0)
        .findFirst().orElse(-1);
  }

  public int many(int x) {
    isTerm(x);
    return (int) letRows().stream().filter(r -> eval(terms.get(x), r).signum() != 0).count();
  }

  public int differ(int x, int y) {
    isTerm(x);
    isTerm(y);
    return letRows().stream()
        .filter(r -> !eval(terms.get(x), r).equals(eval(terms.get(y), r)))
        .findFirst().orElse(-1);
  }

  // ---- the calls on programs

  void isProg(int p) {
    index(p == 0 || p == 1);
  }

  void isStatement(int p, int s) {
    index(s >= 0 && s < progs[p].st.size());
  }

  public int add(int p, char letter, int x, int y, int z) {
    isProg(p);
    arg(SHAPES.containsKey(letter));
    String shape = SHAPES.get(letter);
    int[] told = {x, y, z};
    int[] st = {letter, 0, 0, 0};
    for (int i = 0; i < shape.length(); i++) {
      arg(inRange(shape.charAt(i), told[i]));
      st[i + 1] = told[i];
    }
    state(progs[p].st.size() < 40);
    progs[p].st.add(st);
    return progs[p].st.size();
  }

  public int set(int p, int s, int which, int value) {
    isProg(p);
    isStatement(p, s);
    index(which >= 0 && which <= 2);
    int[] st = progs[p].st.get(s);
    String shape = SHAPES.get((char) st[0]);
    arg(which < shape.length());
    arg(inRange(shape.charAt(which), value));
    int was = st[which + 1];
    st[which + 1] = value;
    return was;
  }

  public int insert(int p, int s, int from) {
    isProg(p);
    index(s >= 0 && s <= progs[p].st.size());
    isStatement(p, from);
    state(progs[p].st.size() < 40);
    progs[p].st.add(s, progs[p].st.get(from).clone());
    return progs[p].st.size();
  }

  public int drop(int p, int s) {
    isProg(p);
    isStatement(p, s);
    progs[p].st.remove(s);
    return progs[p].st.size();
  }

  public int clear(int p) {
    isProg(p);
    int had = progs[p].st.size();
    progs[p].st.clear();
    return had;
  }

  public int copy(int p) {
    isProg(p);
    Prog to = new Prog();
    Prog from = progs[p];
    from.st.forEach(st -> to.st.add(st.clone()));
    to.way = from.way;
    to.r = from.r;
    to.s = from.s;
    to.b = from.b;
    to.merges = from.merges;
    progs[1 - p] = to;
    return to.st.size();
  }

  public int count(int p) {
    isProg(p);
    return progs[p].st.size();
  }

  public int look(int p, int s, int which) {
    isProg(p);
    isStatement(p, s);
    index(which >= 0 && which <= 3);
    return progs[p].st.get(s)[which];
  }

  public int check(int p) {
    isProg(p);
    return faultOf(progs[p]);
  }

  static int faultOf(Prog prog) {
    Set<Integer> bodies = new HashSet<>();
    prog.st.forEach(st -> { if (st[0] == 'd') bodies.add(st[1]); });
    Set<Integer> begun = new HashSet<>();
    StringBuilder open = new StringBuilder();
    for (int s = 0; s < prog.st.size(); s++) {
      int[] st = prog.st.get(s);
      char letter = (char) st[0];
      int top = open.length() - 1;
      if (letter == ':') {
        if (top < 0 || open.charAt(top) != '?') return s;
        open.setCharAt(top, ':');
      } else if (letter == '.') {
        if (top < 0) return s;
        open.setLength(top);
      } else if (letter == '?' || letter == 'w' || letter == 'd') {
        if (open.length() >= 6) return s;
        if (letter == 'd' && (open.length() > 0 || !begun.add(st[1]))) return s;
        open.append(letter);
      } else if (letter == 'x' && !bodies.contains(st[2])) {
        return s;
      }
    }
    return open.length() > 0 ? prog.st.size() : -1;
  }

  public char way(int p, char way) {
    isProg(p);
    arg(way == 'w' || way == 's' || way == 't');
    char was = progs[p].way;
    progs[p].way = way;
    return was;
  }

  public int limit(int p, char what, int value) {
    isProg(p);
    Prog prog = progs[p];
    int was;
    switch (what) {
      case 'r':
        arg(value >= 1 && value <= 6);
        was = prog.r;
        prog.r = value;
        return was;
      case 's':
        arg(value >= 10 && value <= 120);
        was = prog.s;
        prog.s = value;
        return was;
      case 'b':
        arg(value >= 0 && value <= 12);
        was = prog.b;
        prog.b = value;
        return was;
      default:
        throw new IllegalArgumentException();
    }
  }

  // ---- texts

  public int type(char a, char b, char c, char d) {
    StringBuilder more = new StringBuilder();
    for (char letter : new char[] {a, b, c, d}) {
      if (letter != '#' && letter < 256) more.append(letter);
    }
    state(typed.length() + more.length() <= 240);
    typed.append(more);
    return typed.length();
  }

  public int erase() {
    int had = typed.length();
    typed.setLength(0);
    return had;
  }

  static final Pattern TEXT = textPattern();

  static Pattern textPattern() {
    String up = "0|[1-9][0-9]{0,3}|[12][0-9]{4}|3[01][0-9]{3}|32[0-6][0-9]{2}|327[0-5][0-9]|3276[0-7]";
    String down = "-(?:[1-9][0-9]{0,3}|[12][0-9]{4}|3[01][0-9]{3}|32[0-6][0-9]{2}|327[0-5][0-9]|3276[0-8])";
    StringBuilder any = new StringBuilder();
    for (Map.Entry<Character, String> shape : SHAPES.entrySet()) {
      if (any.length() > 0) any.append('|');
      any.append(Pattern.quote(String.valueOf(shape.getKey())));
      for (int i = 0; i < shape.getValue().length(); i++) {
        if (i > 0) any.append(',');
        switch (shape.getValue().charAt(i)) {
          case 'v': any.append("[0-7]"); break;
          case 'n': any.append("(?:" + up + "|" + down + ")"); break;
          case 'i': any.append("[0-3]"); break;
          case 'r': any.append("[01]"); break;
          default: any.append("[0-2]"); break;
        }
      }
    }
    return Pattern.compile("(?:(?:" + any + ");){0,40}");
  }

  public int read(int p) {
    isProg(p);
    String text = typed.toString();
    if (!TEXT.matcher(text).matches()) {
      for (int n = 1; n <= text.length(); n++) {
        Matcher m = TEXT.matcher(text.substring(0, n));
        if (!m.matches() && !m.hitEnd()) return -1 - (n - 1);
      }
      return -1 - text.length();
    }
    progs[p].st.clear();
    for (String one : text.isEmpty() ? new String[0] : text.split(";")) {
      int[] st = {one.charAt(0), 0, 0, 0};
      String rest = one.substring(1);
      String[] parts = rest.isEmpty() ? new String[0] : rest.split(",");
      for (int i = 0; i < parts.length; i++) st[i + 1] = Integer.parseInt(parts[i]);
      progs[p].st.add(st);
    }
    return progs[p].st.size();
  }

  static String textOf(Prog prog) {
    StringBuilder text = new StringBuilder();
    for (int[] st : prog.st) {
      text.append((char) st[0]);
      int n = SHAPES.get((char) st[0]).length();
      for (int i = 1; i <= n; i++) text.append(i > 1 ? "," : "").append(st[i]);
      text.append(';');
    }
    return text.toString();
  }

  public int written(int p, int i) {
    isProg(p);
    String text = textOf(progs[p]);
    return i >= 0 && i < text.length() ? text.charAt(i) : -1;
  }

  // ---- programs as trees

  static final class Node {
    int at;
    int[] st;
    List<Node> one = new ArrayList<>();
    List<Node> two = new ArrayList<>();
    boolean isPlain;

    char letter() {
      return (char) st[0];
    }
  }

  static final class Tree {
    List<Node> main = new ArrayList<>();
    Map<Integer, Node> bodies = new HashMap<>();
  }

  static Tree treeOf(Prog prog) {
    Tree tree = new Tree();
    int[] next = {0};
    tree.main = nodesOf(prog, next, tree);
    return tree;
  }

  private static List<Node> nodesOf(Prog prog, int[] next, Tree tree) {
    List<Node> nodes = new ArrayList<>();
    while (next[0] < prog.st.size()) {
      int[] st = prog.st.get(next[0]);
      if (st[0] == '.' || st[0] == ':') return nodes;
      Node node = new Node();
      node.at = next[0]++;
      node.st = st;
      if (st[0] == '?' || st[0] == 'w' || st[0] == 'd') {
        node.one = nodesOf(prog, next, tree);
        if (prog.st.get(next[0])[0] == ':') {
          next[0]++;
          node.two = nodesOf(prog, next, tree);
        }
        next[0]++;
        node.isPlain = st[0] == '?' && prog.way != 't' && arePlain(node.one) && arePlain(node.two);
      }
      if (st[0] == 'd') tree.bodies.put(st[1], node);
      nodes.add(node);
    }
    return nodes;
  }

  private static boolean arePlain(List<Node> nodes) {
    for (Node node : nodes) {
      if ("kim+-*&|^=<fpr".indexOf(node.letter()) < 0 && !node.isPlain) return false;
    }
    return true;
  }

  // ---- walks with numbers

  static final class Ended extends RuntimeException {
    final char letter;
    final int at;

    Ended(char letter, int at) {
      super(null, null, false, false);
      this.letter = letter;
      this.at = at;
    }
  }

  static final class Given extends RuntimeException {
    final Object what;

    Given(Object what) {
      super(null, null, false, false);
      this.what = what;
    }
  }

  final class Walk {
    final Prog prog;
    final Tree tree;
    final int[] values;
    char end = 'e';
    int where;
    int steps;
    int forks;
    List<BigInteger> outs = new ArrayList<>();
    Set<Integer> done = new TreeSet<>();
    Set<Integer> missed = new TreeSet<>();
    StringBuilder sides = new StringBuilder();
    BigInteger[] vars = zeros(8);
    final BigInteger[] fields = zeros(6);
    final BigInteger[] row = zeros(6);
    int depth;

    Walk(Prog prog, int row) {
      this.prog = prog;
      this.tree = treeOf(prog);
      this.values = valuesOf(row);
      where = prog.st.size();
      try {
        doAll(tree.main, false);
      } catch (Ended e) {
        end = e.letter;
        where = e.at;
      }
    }

    void step(Node node, boolean inPlain) {
      if (inPlain) return;
      if (steps == prog.s) throw new Ended('s', node.at);
      steps++;
    }

    boolean fork(Node node, boolean side) {
      forks++;
      if (!side) missed.add(node.at);
      if (!(prog.merges && node.isPlain)) sides.append(side ? '1' : '0');
      return side;
    }

    BigInteger cut(Node node, BigInteger n, int bits, boolean mayFork) {
      if (prog.way == 't') {
        if (mayFork && !fork(node, fits(n, bits))) throw new Ended('o', node.at);
        return n;
      }
      return narrowNumber(prog.way, bits, n);
    }

    void put(Node node, int v, BigInteger n, boolean mayFork) {
      vars[v] = cut(node, n, v >= 6 ? 32 : 16, mayFork);
    }

    void doAll(List<Node> nodes, boolean inPlain) {
      for (Node node : nodes) {
        if (node.letter() != 'd') doOne(node, inPlain);
      }
    }

    void doOne(Node node, boolean inPlain) {
      step(node, inPlain);
      int x = node.st[1];
      int y = node.st[2];
      int z = node.st[3];
      char letter = node.letter();
      switch (letter) {
        case 'k': put(node, x, big(y), false); break;
        case 'i': put(node, x, big(values[y]), false); break;
        case 'm': put(node, x, vars[y], true); break;
        case '/':
        case '%':
          if (!fork(node, vars[z].signum() != 0)) throw new Ended('z', node.at);
          put(node, x, compute(letter, vars[y], vars[z]), true);
          break;
        case '=':
        case '<': put(node, x, compute(letter, vars[y], vars[z]), false); break;
        case 'g': put(node, x, row[element(node, vars[y])], false); break;
        case 's': {
          int k = element(node, vars[x]);
          row[k] = cut(node, vars[y], 16, true);
          break;
        }
        case 'f': put(node, x, fields[3 * y + z], false); break;
        case 'p': fields[3 * x + y] = cut(node, vars[z], 16, true); break;
        case 'r':
          for (int d = 0; d < 3; d++) fields[3 * x + d] = fields[3 * y + d];
          break;
        case 'a':
          if (!fork(node, vars[x].signum() != 0)) throw new Ended('a', node.at);
          break;
        case 'o': if (outs.size() < 12) outs.add(vars[x]); break;
        case '?': {
          boolean side = fork(node, vars[x].signum() != 0);
          if (side) done.add(node.at);
          doAll(side ? node.one : node.two, inPlain || node.isPlain);
          return;
        }
        case 'w': loop(node, x); return;
        case 'x': call(node, x, y, z); return;
        case 'v':
          done.add(node.at);
          if (depth == 0) throw new Ended('e', node.at);
          throw new Given(vars[x]);
        default: put(node, x, compute(letter, vars[y], vars[z]), true); break;
      }
      done.add(node.at);
    }

    int element(Node node, BigInteger k) {
      boolean is = k.signum() >= 0 && k.compareTo(big(prog.r)) < 0;
      if (!fork(node, is)) throw new Ended('b', node.at);
      return k.intValueExact();
    }

    void loop(Node node, int x) {
      for (int rounds = 0; fork(node, vars[x].signum() != 0); rounds++) {
        done.add(node.at);
        if (rounds == prog.b) throw new Ended('l', node.at);
        doAll(node.one, false);
        step(node, false);
      }
    }

    void call(Node node, int x, int y, int z) {
      if (depth == 3) throw new Ended('d', node.at);
      BigInteger with = cut(node, vars[z], 16, true);
      done.add(node.at);
      BigInteger[] mine = vars;
      vars = zeros(8);
      vars[0] = with;
      depth++;
      BigInteger what = BigInteger.ZERO;
      try {
        doAll(tree.bodies.get(y).one, false);
      } catch (Given given) {
        what = (BigInteger) given.what;
      }
      depth--;
      vars = mine;
      put(node, x, what, true);
    }
  }

  static BigInteger[] zeros(int n) {
    BigInteger[] all = new BigInteger[n];
    Arrays.fill(all, BigInteger.ZERO);
    return all;
  }

  // ---- walks with terms; the side of a fork is what its term is for a row that takes the path

  static final class Condition {
    final int at;
    final char kind;
    final boolean side;
    final Term term;

    Condition(int at, char kind, boolean side, Term term) {
      this.at = at;
      this.kind = kind;
      this.side = side;
      this.term = term;
    }
  }

  final class TermWalk {
    final Prog prog;
    final Tree tree;
    final int taker;
    final Map<Term, BigInteger> memo = new IdentityHashMap<>();
    char end = 'e';
    int where;
    int steps;
    List<Term> outs = new ArrayList<>();
    List<Condition> conditions = new ArrayList<>();
    Term[] vars = new Term[8];
    Term[] fields = new Term[6];
    Term[] row = new Term[6];
    int depth;

    TermWalk(Prog prog, int taker) {
      this.prog = prog;
      this.tree = treeOf(prog);
      this.taker = taker;
      Arrays.fill(vars, numberTerm(0));
      Arrays.fill(fields, numberTerm(0));
      Arrays.fill(row, numberTerm(0));
      where = prog.st.size();
      try {
        doAll(tree.main);
      } catch (Ended e) {
        end = e.letter;
        where = e.at;
      }
    }

    void step(Node node) {
      if (steps == prog.s) throw new Ended('s', node.at);
      steps++;
    }

    boolean fork(Node node, char kind, Term term) {
      boolean side = eval(term, taker, memo).signum() != 0;
      if (!term.isNumber() && !(prog.merges && node.isPlain)) {
        conditions.add(new Condition(node.at, kind, side, term));
      }
      return side;
    }

    Term both(Term least, Term t, Term most) {
      return letterTerm('&', letterTerm('<', least, t), letterTerm('<', t, most));
    }

    Term cut(Node node, Term t, int bits, boolean mayFork) {
      if (prog.way == 't' && mayFork) {
        Term fits = both(numberTerm(leastOf(bits).subtract(BigInteger.ONE)), t,
            numberTerm(greatestOf(bits).add(BigInteger.ONE)));
        if (!fork(node, 'o', fits)) throw new Ended('o', node.at);
      }
      return narrowTerm(prog.way == 's' ? 's' : 'w', bits, t);
    }

    void put(Node node, int v, Term t, boolean mayFork) {
      vars[v] = cut(node, t, v >= 6 ? 32 : 16, mayFork);
    }

    void doAll(List<Node> nodes) {
      for (Node node : nodes) {
        if (node.letter() != 'd') {
          step(node);
          doOne(node);
        }
      }
    }

    void doPlain(List<Node> nodes) {
      nodes.forEach(this::doOne);
    }

    void doOne(Node node) {
      int x = node.st[1];
      int y = node.st[2];
      int z = node.st[3];
      char letter = node.letter();
      switch (letter) {
        case 'k': put(node, x, numberTerm(y), false); break;
        case 'i': put(node, x, fixed[y] >= 0 ? numberTerm(fixed[y]) : inputTerm(y), false); break;
        case 'm': put(node, x, vars[y], true); break;
        case '/':
        case '%':
          if (!fork(node, 'z', vars[z])) throw new Ended('z', node.at);
          put(node, x, letterTerm(letter, vars[y], vars[z]), true);
          break;
        case '=':
        case '<': put(node, x, letterTerm(letter, vars[y], vars[z]), false); break;
        case 'g': {
          mustBeElement(node, vars[y]);
          put(node, x, elementAt(vars[y], 0), false);
          break;
        }
        case 's': {
          mustBeElement(node, vars[x]);
          Term t = cut(node, vars[y], 16, true);
          for (int k = 0; k < prog.r; k++) {
            row[k] = chooseTerm(letterTerm('=', vars[x], numberTerm(k)), t, row[k]);
          }
          break;
        }
        case 'f': put(node, x, fields[3 * y + z], false); break;
        case 'p': fields[3 * x + y] = cut(node, vars[z], 16, true); break;
        case 'r':
          for (int d = 0; d < 3; d++) fields[3 * x + d] = fields[3 * y + d];
          break;
        case 'a': if (!fork(node, 'a', vars[x])) throw new Ended('a', node.at); break;
        case 'o': if (outs.size() < 12) outs.add(vars[x]); break;
        case '?': branch(node, vars[x]); break;
        case 'w':
          for (int rounds = 0; fork(node, 'w', vars[x]); rounds++) {
            if (rounds == prog.b) throw new Ended('l', node.at);
            doAll(node.one);
            step(node);
          }
          break;
        case 'x': call(node, x, y, z); break;
        case 'v':
          if (depth == 0) throw new Ended('e', node.at);
          throw new Given(vars[x]);
        default: put(node, x, letterTerm(letter, vars[y], vars[z]), true); break;
      }
    }

    void mustBeElement(Node node, Term k) {
      if (!fork(node, 'b', both(numberTerm(-1), k, numberTerm(prog.r)))) {
        throw new Ended('b', node.at);
      }
    }

    Term elementAt(Term k, int from) {
      if (k.isNumber()) return row[k.number.intValueExact()];
      if (from == prog.r - 1) return row[from];
      return chooseTerm(letterTerm('=', k, numberTerm(from)), row[from], elementAt(k, from + 1));
    }

    void branch(Node node, Term c) {
      if (prog.merges && node.isPlain && !c.isNumber()) {
        Term[] vars0 = vars.clone();
        Term[] fields0 = fields.clone();
        doPlain(node.one);
        Term[] vars1 = vars;
        Term[] fields1 = fields;
        vars = vars0;
        fields = fields0;
        doPlain(node.two);
        for (int i = 0; i < 8; i++) vars[i] = chooseTerm(c, vars1[i], vars[i]);
        for (int i = 0; i < 6; i++) fields[i] = chooseTerm(c, fields1[i], fields[i]);
      } else {
        boolean side = fork(node, '?', c);
        List<Node> nodes = side ? node.one : node.two;
        if (node.isPlain) {
          doPlain(nodes);
        } else {
          doAll(nodes);
        }
      }
    }

    void call(Node node, int x, int y, int z) {
      if (depth == 3) throw new Ended('d', node.at);
      Term with = cut(node, vars[z], 16, true);
      Term[] mine = vars;
      vars = new Term[8];
      Arrays.fill(vars, numberTerm(0));
      vars[0] = with;
      depth++;
      Term what = numberTerm(0);
      try {
        doAll(tree.bodies.get(y).one);
      } catch (Given given) {
        what = (Term) given.what;
      }
      depth--;
      vars = mine;
      put(node, x, what, true);
    }
  }

  // ---- the calls on walks

  void isWalk(int p, int row) {
    isProg(p);
    index(isRow(row));
    state(faultOf(progs[p]) < 0);
  }

  Walk walk(int p, int row) {
    isWalk(p, row);
    return new Walk(progs[p], row);
  }

  public char end(int p, int row) {
    return walk(p, row).end;
  }

  public int where(int p, int row) {
    return walk(p, row).where;
  }

  public int steps(int p, int row) {
    return walk(p, row).steps;
  }

  public int forks(int p, int row) {
    return walk(p, row).forks;
  }

  public int outputs(int p, int row) {
    return walk(p, row).outs.size();
  }

  public int output(int p, int row, int i) {
    List<BigInteger> outs = walk(p, row).outs;
    element(i >= 0 && i < outs.size());
    return outs.get(i).intValueExact();
  }

  public boolean goes(int p, int row, int s, int side) {
    isProg(p);
    index(isRow(row));
    isStatement(p, s);
    index(side == 0 || side == 1);
    Walk walk = walk(p, row);
    return (side == 1 ? walk.done : walk.missed).contains(s);
  }

  // ---- the calls on paths

  public boolean merge(int p, boolean isOn) {
    isProg(p);
    boolean was = progs[p].merges;
    progs[p].merges = isOn;
    return was;
  }

  Map<String, List<Integer>> pathsOf(int p) {
    isProg(p);
    state(faultOf(progs[p]) < 0);
    Map<String, List<Integer>> all = new LinkedHashMap<>();
    for (int row : letRows()) {
      all.computeIfAbsent(walk(p, row).sides.toString(), key -> new ArrayList<>()).add(row);
    }
    return all;
  }

  public int paths(int p) {
    return pathsOf(p).size();
  }

  public int path(int p, int row) {
    isWalk(p, row);
    return let(row)
        ? new ArrayList<>(pathsOf(p).keySet()).indexOf(walk(p, row).sides.toString())
        : -1;
  }

  List<Integer> takers(int p, int i) {
    List<List<Integer>> all = new ArrayList<>(pathsOf(p).values());
    element(i >= 0 && i < all.size());
    return all.get(i);
  }

  TermWalk termWalk(int p, int i) {
    List<Integer> takers = takers(p, i);
    return new TermWalk(progs[p], takers.get(0));
  }

  public int taken(int p, int i, char what) {
    isProg(p);
    arg(what == 'f' || what == 'n' || what == 'w' || what == 'c' || what == 'o');
    List<Integer> takers = takers(p, i);
    switch (what) {
      case 'f': return takers.get(0);
      case 'n': return takers.size();
      case 'w': return walk(p, takers.get(0)).where;
      case 'c': return termWalk(p, i).conditions.size();
      default: return termWalk(p, i).outs.size();
    }
  }

  public char ending(int p, int i) {
    return walk(p, takers(p, i).get(0)).end;
  }

  Condition conditionOf(int p, int i, int j) {
    List<Condition> all = termWalk(p, i).conditions;
    element(j >= 0 && j < all.size());
    return all.get(j);
  }

  public int condition(int p, int i, int j, char what) {
    isProg(p);
    arg(what == 's' || what == 'k' || what == 'h' || what == 'z');
    Condition c = conditionOf(p, i, j);
    switch (what) {
      case 's': return c.at;
      case 'k': return c.kind;
      case 'h': return c.side ? 1 : 0;
      default: return sizeOf(c.term);
    }
  }

  public long conditionSign(int p, int i, int j) {
    return conditionOf(p, i, j).term.sign;
  }

  public boolean holds(int p, int i, int j, int row) {
    isWalk(p, row);
    Condition c = conditionOf(p, i, j);
    return (eval(c.term, row).signum() != 0) == c.side;
  }

  Term outputOf(int p, int i, int j) {
    List<Term> outs = termWalk(p, i).outs;
    element(j >= 0 && j < outs.size());
    return outs.get(j);
  }

  public long outputSign(int p, int i, int j) {
    return outputOf(p, i, j).sign;
  }

  public long outputValue(int p, int i, int j, int row) {
    isWalk(p, row);
    return eval(outputOf(p, i, j), row).longValueExact();
  }

  // ---- the calls on goals

  static Set<Integer> goalsOf(Walk walk) {
    Set<Integer> all = new HashSet<>();
    walk.done.forEach(s -> all.add(2 * s + 1));
    walk.missed.forEach(s -> all.add(2 * s));
    return all;
  }

  Set<Integer> goalsOf(int p, List<Integer> rows) {
    Set<Integer> all = new HashSet<>();
    rows.forEach(row -> all.addAll(goalsOf(walk(p, row))));
    return all;
  }

  public int goals(int p) {
    isWalk(p, 0);
    return goalsOf(p, letRows()).size();
  }

  public int reaching(int p, int s, int side) {
    isProg(p);
    isStatement(p, s);
    index(side == 0 || side == 1);
    isWalk(p, 0);
    return letRows().stream().filter(row -> goalsOf(walk(p, row)).contains(2 * s + side))
        .findFirst().orElse(-1);
  }

  public int keep(int row) {
    index(isRow(row));
    if (!keptRows.contains(row)) {
      state(keptRows.size() < 16);
      keptRows.add(row);
    }
    return keptRows.size();
  }

  public int unkeep() {
    int had = keptRows.size();
    keptRows.clear();
    return had;
  }

  public int kept(int i) {
    index(i >= 0 && i < keptRows.size());
    return keptRows.get(i);
  }

  public int covered(int p) {
    isWalk(p, 0);
    return goalsOf(p, keptRows).size();
  }

  public int suite(int p) {
    isWalk(p, 0);
    keptRows.clear();
    Set<Integer> wanted = goalsOf(p, letRows());
    while (!wanted.isEmpty() && keptRows.size() < 16) {
      int best = -1;
      int most = 0;
      for (int row : letRows()) {
        Set<Integer> found = goalsOf(walk(p, row));
        found.retainAll(wanted);
        if (found.size() > most) {
          most = found.size();
          best = row;
        }
      }
      keptRows.add(best);
      wanted.removeAll(goalsOf(walk(p, best)));
    }
    return keptRows.size();
  }

  private int z;

  private int draw(int n) {
    z = z * 1103515245 + 12345;
    return (z >>> 16) % n;
  }

  public int fuzz(int p, int rounds, int seed) {
    isProg(p);
    arg(rounds >= 1 && rounds <= 40);
    isWalk(p, 0);
    int had = keptRows.size();
    if (keptRows.isEmpty()) keptRows.add(letRows().get(0));
    z = seed;
    for (int round = 0; round < rounds; round++) {
      int row = keptRows.get(draw(keptRows.size()));
      int[] values = valuesOf(row);
      switch (draw(4)) {
        case 0:
          if (bits() > 0) values = valuesOf(row ^ 1 << draw(bits()));
          break;
        case 1: {
          int k = draw(4);
          values[k] = (values[k] + 1) % (1 << widths[k]);
          break;
        }
        case 2:
          values[draw(4)] = 0;
          break;
        default: {
          int k = draw(4);
          int other = draw(4);
          values[k] = values[other] % (1 << widths[k]);
          break;
        }
      }
      int next = rowOf(values);
      if (let(next) && keptRows.size() < 16
          && !goalsOf(p, keptRows).containsAll(goalsOf(walk(p, next)))) {
        keptRows.add(next);
      }
    }
    return keptRows.size() - had;
  }

  public int shrink(int p, int row) {
    Walk walk = walk(p, row);
    again:
    while (true) {
      int[] values = valuesOf(row);
      for (int k = 0; k < 4; k++) {
        for (int less : new int[] {0, values[k] / 2, values[k] - 1}) {
          if (less < 0 || less == values[k]) continue;
          int[] next = values.clone();
          next[k] = less;
          Walk nextWalk = walk(p, rowOf(next));
          if (let(rowOf(next)) && nextWalk.end == walk.end && nextWalk.where == walk.where) {
            row = rowOf(next);
            continue again;
          }
        }
      }
      return row;
    }
  }

  public int unlike() {
    isWalk(0, 0);
    isWalk(1, 0);
    for (int row : letRows()) {
      Walk a = walk(0, row);
      Walk b = walk(1, row);
      if (a.end != b.end || !a.outs.equals(b.outs)) return row;
    }
    return -1;
  }

  // ---- the theorem

  public long checksum() {
    List<Long> all = new ArrayList<>();
    for (int k = 0; k < 4; k++) {
      all.add((long) widths[k]);
      all.add((long) fixed[k]);
    }
    all.add((long) terms.size());
    terms.forEach(t -> all.add(t.sign));
    for (Prog prog : progs) {
      all.add((long) prog.st.size());
      prog.st.forEach(st -> { for (int n : st) all.add((long) n); });
      all.add((long) prog.way);
      all.add((long) prog.r);
      all.add((long) prog.s);
      all.add((long) prog.b);
      all.add(prog.merges ? 1L : 0L);
    }
    all.add((long) keptRows.size());
    keptRows.forEach(row -> all.add((long) row));
    all.add((long) typed.length());
    typed.chars().forEach(c -> all.add((long) c));
    long h = 0;
    for (long n : all) h = 31 * h + n;
    return h;
  }

  public boolean isTrue(int p, int row) {
    isWalk(p, row);
    if (!let(row)) return true;
    Walk walk = walk(p, row);
    int admitted = 0;
    for (int i = 0; i < paths(p); i++) {
      TermWalk path = termWalk(p, i);
      if (path.conditions.stream().allMatch(c -> (eval(c.term, row).signum() != 0) == c.side)) {
        admitted++;
        if (!takers(p, i).contains(row) || path.end != walk.end || path.where != walk.where) {
          return false;
        }
        if (path.outs.size() != walk.outs.size()) return false;
        for (int j = 0; j < path.outs.size(); j++) {
          if (!eval(path.outs.get(j), row).equals(walk.outs.get(j))) return false;
        }
      }
    }
    return admitted == 1;
  }

  public boolean goalsAreTrue(int p) {
    isWalk(p, 0);
    return true;
  }
}
