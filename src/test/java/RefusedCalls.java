import java.lang.reflect.InvocationTargetException;
import java.lang.reflect.Method;
import java.util.ArrayList;
import java.util.Arrays;
import java.util.HashMap;
import java.util.HashSet;
import java.util.List;
import java.util.Map;
import java.util.Set;
import java.util.function.Predicate;
import java.util.function.Supplier;

/**
 * Each call with each argument at the least and the greatest value that is allowed, at the first
 * one outside on each side and far outside, all of them together: of what refuses it, that is
 * thrown which is documented first, and nothing is changed.
 */
final class RefusedCalls extends Edges {
  private static final Map<String, Method> FACE = new HashMap<>();
  private static final Set<String> TRIED = new HashSet<>();

  static {
    for (Method method : Pathwright.class.getDeclaredMethods()) {
      FACE.put(method.getName(), method);
    }
  }

  /** An argument as the document tells it, the values that are tried, and which are good. */
  private record Argument(String told, Object[] values, Predicate<Object[]> isGood, Class<?> due) {
  }

  private final Document.Promise promise;
  private final Supplier<Pathwright> maker;
  private final List<Argument> arguments = new ArrayList<>();
  private Predicate<Object[]> isReady = args -> true;
  private boolean hasState;
  private Pathwright x;
  private int bad;
  private int tried;

  private RefusedCalls(String name, Supplier<Pathwright> maker) {
    this.promise = DOCUMENT.promises.get(name);
    this.maker = maker;
  }

  // ---- how a call is told

  private static RefusedCalls call(String name, Supplier<Pathwright> maker) {
    return new RefusedCalls(name, maker);
  }

  private RefusedCalls from(String told, int least, int greatest, Class<?> due) {
    int place = arguments.size();
    return values(told, around(least, greatest),
        args -> least <= (int) args[place] && (int) args[place] <= greatest, due);
  }

  private RefusedCalls values(String told, Object[] values, Predicate<Object[]> isGood,
      Class<?> due) {
    arguments.add(new Argument(told, values, isGood, due));
    return this;
  }

  private RefusedCalls any(String told, Object... values) {
    return values(told, values, args -> true, INDEX);
  }

  private RefusedCalls letters(String told, String good) {
    int place = arguments.size();
    Set<Object> all = new HashSet<>();
    for (char c : good.toCharArray()) {
      all.addAll(List.of(c, (char) (c - 1), (char) (c + 1), (char) (c ^ 32), (char) (c + 256)));
    }
    all.addAll(List.of((char) 0, (char) 65535, '#', ' '));
    return values(told, all.toArray(), args -> good.indexOf((char) args[place]) >= 0, ARGUMENT);
  }

  private RefusedCalls program() {
    return from("p: program 0 or 1", 0, 1, INDEX);
  }

  private RefusedCalls row() {
    return from("row: 0 to the number of rows less 1", 0, 63, INDEX);
  }

  private RefusedCalls statement() {
    return from("s: 0 to the number of statements less 1", 0, 5, INDEX);
  }

  private RefusedCalls state(Predicate<Object[]> isReady) {
    this.isReady = isReady;
    hasState = true;
    return this;
  }

  /** Only the program 0 is whole. */
  private RefusedCalls whole() {
    return state(args -> (int) args[0] == 0);
  }

  private static Object[] around(int least, int greatest) {
    Set<Integer> all = new java.util.TreeSet<>(Arrays.asList(MIN, least - 1, least,
        (int) (((long) least + greatest) / 2), greatest, greatest + 1, MAX));
    return all.toArray();
  }

  // ---- how it is tried

  private void tryAll() {
    TRIED.add(promise.name());
    List<String> told = new ArrayList<>();
    arguments.forEach(argument -> told.add(argument.told()));
    eq("arguments of " + promise.name(), told.toString(), promise.arguments().toString());
    Set<String> due = new HashSet<>();
    arguments.forEach(a -> due.add(a.told().endsWith(": any") || a.told().endsWith("likewise")
        || a.told().startsWith("a: a letter") || a.told().startsWith("isOn") ? ""
        : a.due().getSimpleName()));
    due.remove("");
    if (hasState) {
      due.add(STATE.getSimpleName());
    }
    eq("what refuses " + promise.name(), due.equals(new HashSet<>(promise.thrown())) ? 1 : 0, 1);
    List<String> thrown = new ArrayList<>();
    for (Class<?> type : FACE.get(promise.name()).getExceptionTypes()) {
      thrown.add(type.getSimpleName());
    }
    eq("the face of " + promise.name(), thrown.toString(), promise.thrown().toString());
    x = maker.get();
    tryFrom(new Object[arguments.size()], 0);
    eq("calls of " + promise.name() + " answered wrongly", bad, 0);
    eq("what is told behind refused calls of " + promise.name(), allOf(x), allOf(maker.get()));
  }

  private void tryFrom(Object[] args, int place) {
    if (place == args.length) {
      tryOne(args);
      return;
    }
    for (Object value : arguments.get(place).values()) {
      args[place] = value;
      tryFrom(args, place + 1);
    }
  }

  private Class<?> dueFor(Object[] args) {
    for (String name : promise.thrown()) {
      for (Argument argument : arguments) {
        if (argument.due().getSimpleName().equals(name) && !argument.isGood().test(args)) {
          return argument.due();
        }
      }
      if (name.equals(STATE.getSimpleName()) && !isReady.test(args)) {
        return STATE;
      }
    }
    return null;
  }

  private void tryOne(Object[] args) {
    Class<?> due = dueFor(args);
    long before = x.checksum();
    Throwable got = null;
    try {
      FACE.get(promise.name()).invoke(x, args);
    } catch (InvocationTargetException e) {
      got = e.getCause();
    } catch (IllegalAccessException e) {
      throw new IllegalStateException(e);
    }
    boolean isDue = due == null ? got == null : isBy(got, due) && x.checksum() == before;
    if (!isDue && bad++ < 5) {
      System.out.println(promise.name() + Arrays.toString(args) + " threw " + got + ", due is "
          + (due == null ? "nothing" : due.getSimpleName()));
    }
    // An object is used for at most 512 calls, three of them here each time.
    tried++;
    if (due == null || !isDue || tried % 64 == 0) {
      x = maker.get();
    }
  }

  /** All that an object tells, but what is asked by a call that changes it. */
  private static String allOf(Pathwright x) {
    StringBuilder all = new StringBuilder().append(x.checksum()).append(' ').append(x.rows());
    for (int p = 0; p < 2; p++) {
      if (x.check(p) < 0) {
        for (int row = 0; row < x.rows(); row++) {
          all.append(' ').append(x.end(p, row)).append(x.where(p, row)).append(x.path(p, row))
              .append(x.steps(p, row)).append(x.forks(p, row)).append(x.outputs(p, row));
        }
        for (int i = 0; i < x.paths(p); i++) {
          all.append(x.ending(p, i)).append(x.taken(p, i, 'c')).append(x.taken(p, i, 'o'));
        }
        all.append(x.goals(p)).append(' ').append(x.covered(p));
      }
    }
    return all.toString();
  }

  // ---- the objects that are asked

  // Two paths, each of which has one condition and two outputs; and the other is not whole.
  private static final String WHOLE = "i0,0;?0;:;.;o0;o0;";
  private static final String BROKEN = "i0,0;?0;:;:;o0;o0;";

  private static Pathwright mixed() {
    Pathwright x = with(WHOLE);
    put(x, 1, BROKEN);
    return x;
  }

  private static Pathwright terms(int count) {
    Pathwright x = mixed();
    x.input(0);
    x.number(70000);
    for (int n = 2; n < count; n++) {
      x.make('*', 0, 1);
    }
    return x;
  }

  static void all() {
    says("A method that throws an exception changes nothing.");
    nothingChanges();
    says("If several exceptions apply, the one that is documented first is thrown.");
    inputs();
    for (int count : new int[] {3, 23, 24}) {
      termsMade(count);
    }
    termsAsked();
    programs();
    for (int count : new int[] {6, 39, 40}) {
      moreStatements(count);
    }
    statements();
    texts();
    walks();
    paths();
    goals();
    bothPrograms();
    for (Document.Promise promise : DOCUMENT.promises.values()) {
      boolean isAsked = promise.arguments().size() + promise.thrown().size() > 0;
      eq("calls of " + promise.name() + " are tried", TRIED.contains(promise.name()) ? 1 : 0,
          isAsked ? 1 : 0);
    }
  }

  // ---- the calls

  private static void inputs() {
    int[] widths = {2, 2, 1, 1};
    call("width", RefusedCalls::mixed).from("k: 0 to 3", 0, 3, INDEX)
        .values("bits: 0 to 4", new Object[] {MIN, -1, 0, 1, 2, 3, 4, 5, MAX},
            args -> 0 <= (int) args[1] && (int) args[1] <= 4, ARGUMENT)
        .state(args -> 6 - widths[(int) args[0]] + (int) args[1] <= 6).tryAll();
    call("fix", RefusedCalls::mixed).from("k: 0 to 3", 0, 3, INDEX)
        .values("value: 0 to 2 to the power of its width, less 1",
            new Object[] {MIN, -1, 0, 1, 2, 3, 4, 5, MAX},
            args -> 0 <= (int) args[1] && (int) args[1] < 1 << widths[(int) args[0]], ARGUMENT)
        .tryAll();
    call("free", RefusedCalls::mixed).from("k: 0 to 3", 0, 3, INDEX).tryAll();
    call("part", RefusedCalls::mixed).row().from("k: 0 to 3", 0, 3, INDEX).tryAll();
    call("isLet", RefusedCalls::mixed).row().tryAll();
  }

  private static void termsMade(int count) {
    Supplier<Pathwright> maker = () -> terms(count);
    call("number", maker).any("value: any", MIN, -1, 0, 1, MAX).state(args -> count < 24).tryAll();
    call("input", maker).from("k: 0 to 3", 0, 3, INDEX).state(args -> count < 24).tryAll();
    call("make", maker).letters("letter: +, -, *, /, %, &, |, ^, = or <", "+-*/%&|^=<")
        .from("x: 0 to the number of terms less 1", 0, count - 1, INDEX)
        .from("y: 0 to the number of terms less 1", 0, count - 1, INDEX)
        .state(args -> count < 24).tryAll();
    call("choose", maker).from("c: 0 to the number of terms less 1", 0, count - 1, INDEX)
        .from("x: 0 to the number of terms less 1", 0, count - 1, INDEX)
        .from("y: 0 to the number of terms less 1", 0, count - 1, INDEX)
        .state(args -> count < 24).tryAll();
    call("narrow", maker).letters("how: w wrapped, s cut off", "ws")
        .values("bits: 16 or 32", new Object[] {MIN, -16, 0, 8, 15, 16, 17, 31, 32, 33, 64, MAX},
            args -> (int) args[1] == 16 || (int) args[1] == 32, ARGUMENT)
        .from("x: 0 to the number of terms less 1", 0, count - 1, INDEX)
        .state(args -> count < 24).tryAll();
  }

  private static void termsAsked() {
    for (int count : new int[] {3, 24}) {
      Supplier<Pathwright> maker = () -> terms(count);
      for (String name : new String[] {"size", "sign", "first", "many"}) {
        call(name, maker).from("x: 0 to the number of terms less 1", 0, count - 1, INDEX).tryAll();
      }
      call("reach", maker).from("x: 0 to the number of terms less 1", 0, count - 1, INDEX)
          .letters("end: l the least, g the greatest", "lg").tryAll();
      call("value", maker).from("x: 0 to the number of terms less 1", 0, count - 1, INDEX).row()
          .tryAll();
      call("differ", maker).from("x: 0 to the number of terms less 1", 0, count - 1, INDEX)
          .from("y: 0 to the number of terms less 1", 0, count - 1, INDEX).tryAll();
    }
    raises("no term at all", INDEX, fresh(), () -> fresh().sign(0));
  }

  private static void programs() {
    for (String name : new String[] {"clear", "copy", "count", "check", "read"}) {
      call(name, RefusedCalls::mixed).program().tryAll();
    }
    call("drop", RefusedCalls::mixed).program().statement().tryAll();
    call("look", RefusedCalls::mixed).program().statement()
        .from("which: 0 the letter as a number, 1 x, 2 y, 3 z", 0, 3, INDEX).tryAll();
    call("way", RefusedCalls::mixed).program().letters("way: w, s or t", "wst").tryAll();
    call("limit", RefusedCalls::mixed).program()
        .letters("what: r how long the row is, 1 to 6; s the steps, 10 to 120; b the bound,"
            + " 0 to 12", "rsb")
        .values("value: as told there",
            new Object[] {MIN, -1, 0, 1, 2, 6, 7, 9, 10, 11, 12, 13, 119, 120, 121, MAX},
            args -> isLimit((char) args[1], (int) args[2]), ARGUMENT).tryAll();
    call("merge", RefusedCalls::mixed).program().any("isOn: whether it is to merge", false, true)
        .tryAll();
    call("written", RefusedCalls::mixed).program().any("i: any", MIN, -1, 0, 1, 24, 25, MAX)
        .tryAll();
  }

  private static boolean isLimit(char what, int value) {
    switch (what) {
      case 'r': return 1 <= value && value <= 6;
      case 's': return 10 <= value && value <= 120;
      case 'b': return 0 <= value && value <= 12;
      default: return true;
    }
  }

  private static Pathwright statements(int count) {
    Pathwright x = fresh();
    for (int p = 0; p < 2; p++) {
      put(x, p, "i0,0;?0;.;".repeat(count / 3) + "a0;".repeat(count % 3));
    }
    return x;
  }

  private static void moreStatements(int count) {
    Supplier<Pathwright> maker = () -> statements(count);
    call("insert", maker).program().from("s: 0 to the number of statements", 0, count, INDEX)
        .from("from: 0 to the number of statements less 1", 0, count - 1, INDEX)
        .state(args -> count < 40).tryAll();
    Object[] numbers = {MIN, -1, 0, 7, 8, MAX};
    call("add", maker).program().letters("letter: as told in Part 3", "kim+-*/%&|^=<gsfprao?wdxv:.")
        .values("x: as told there", numbers, args -> isNumber(args, 0), ARGUMENT)
        .values("y: as told there", numbers, args -> isNumber(args, 1), ARGUMENT)
        .values("z: as told there", numbers, args -> isNumber(args, 2), ARGUMENT)
        .state(args -> count < 40).tryAll();
  }

  private static final String[] KINDS = {
    "k vn", "i vi", "m vv", "+ vvv", "- vvv", "* vvv", "/ vvv", "% vvv", "& vvv", "| vvv", "^ vvv",
    "= vvv", "< vvv", "g vv", "s vv", "f vrd", "p rdv", "r rr", "a v", "o v", "? v", "w v", "d d",
    "x vdv", "v v", ": ", ". "
  };

  private static boolean isNumber(char letter, int which, int n) {
    for (String kind : KINDS) {
      if (kind.charAt(0) == letter && which < kind.length() - 2) {
        char what = kind.charAt(which + 2);
        if (what == 'n') {
          return -32768 <= n && n <= 32767;
        }
        return 0 <= n && n <= (what == 'v' ? 7 : what == 'i' ? 3 : what == 'r' ? 1 : 2);
      }
    }
    return true;
  }

  private static boolean isNumber(Object[] args, int which) {
    return isNumber((char) args[1], which, (int) args[2 + which]);
  }

  private static final int[] NUMBERS = {
    MIN, -32769, -32768, -1, 0, 1, 2, 3, 4, 7, 8, 32767, 32768, MAX
  };

  /** Each number of each letter, told to add and to set; and each sign that is no letter. */
  private static void statements() {
    Pathwright y = fresh();
    int unasked = 0;
    for (int c = 0; c < 65536; c++) {
      char letter = (char) c;
      y = c % 256 == 0 ? fresh() : y;
      if ("kim+-*/%&|^=<gsfprao?wdxv:.".indexOf(letter) < 0) {
        try {
          y.add(0, letter, 0, 0, 0);
        } catch (IllegalArgumentException e) {
          unasked++;
        }
      }
    }
    eq("signs that are no letters", unasked, 65536 - 27);
    eq("nothing came of them", y.count(0), 0);
    int told = 0;
    for (String kind : KINDS) {
      int had = kind.length() - 2;
      for (int a : NUMBERS) {
        for (int b : NUMBERS) {
          y = fresh();
          for (int c : NUMBERS) {
            told += isAdded(y, kind.charAt(0), had, a, b, c) ? 1 : 0;
          }
        }
      }
    }
    eq("statements told to add", told, 27 * 14 * 14 * 14);
    Object[] values = new Object[NUMBERS.length];
    Arrays.setAll(values, i -> NUMBERS[i]);
    Predicate<Object[]> isThere = args -> {
      int s = (int) args[1];
      int p = (int) args[0];
      return p == 0 ? 0 <= s && s < 27 : s == 0;
    };
    call("set", RefusedCalls::everyLetter).program()
        .values("s: 0 to the number of statements less 1", upTo(27), isThere, INDEX)
        .from("which: 0 x, 1 y, 2 z", 0, 2, INDEX)
        .values("value: as told in Part 3", values, RefusedCalls::isSet, ARGUMENT).tryAll();
  }

  private static Pathwright everyLetter() {
    Pathwright x = with(EVERY);
    return put(x, 1, "o0;");
  }

  private static Object[] upTo(int end) {
    List<Object> all = new ArrayList<>(List.of(MIN, -1, MAX));
    for (int s = 0; s <= end; s++) {
      all.add(s);
    }
    return all.toArray();
  }

  private static boolean isSet(Object[] args) {
    char letter = (int) args[0] == 1 ? 'o' : EVERY.split(";")[(int) args[1]].charAt(0);
    for (String kind : KINDS) {
      if (kind.charAt(0) == letter) {
        int which = (int) args[2];
        return which < kind.length() - 2 && isNumber(letter, which, (int) args[3]);
      }
    }
    return false;
  }

  /** Whether it is refused as it must be, or stands as it was told. */
  private static boolean isAdded(Pathwright y, char letter, int had, int a, int b, int c) {
    boolean isGood = isNumber(letter, 0, a) && isNumber(letter, 1, b) && isNumber(letter, 2, c);
    try {
      int count = y.add(1, letter, a, b, c);
      boolean isSo = isGood && count == 1 && y.look(1, 0, 0) == letter
          && y.look(1, 0, 1) == (had > 0 ? a : 0) && y.look(1, 0, 2) == (had > 1 ? b : 0)
          && y.look(1, 0, 3) == (had > 2 ? c : 0);
      y.drop(1, 0);
      return isSo;
    } catch (IllegalArgumentException e) {
      return !isGood && y.count(1) == 0;
    }
  }

  private static void texts() {
    Object[] signs = {'a', '#', (char) 0, (char) 255, (char) 256, (char) 65535};
    for (int typed : new int[] {0, 236, 237, 238, 239, 240}) {
      Supplier<Pathwright> maker = () -> {
        Pathwright x = fresh();
        typeAll(x, "k".repeat(typed));
        return x;
      };
      call("type", maker).any("a: a letter; # and signs with numbers above 255 are none", signs)
          .any("b: likewise", signs).any("c: likewise", signs).any("d: likewise", signs)
          .state(args -> {
            int more = 0;
            for (Object sign : args) {
              more += (char) sign != '#' && (char) sign <= 255 ? 1 : 0;
            }
            return typed + more <= 240;
          }).tryAll();
    }
  }

  private static void walks() {
    for (String name : new String[] {"end", "where", "steps", "forks", "outputs", "path", "shrink",
        "isTrue"}) {
      call(name, RefusedCalls::mixed).program().row().whole().tryAll();
    }
    call("output", RefusedCalls::mixed).program().row()
        .values("i: 0 to 11", new Object[] {MIN, -1, 0, 1, 2, 11, 12, MAX},
            args -> 0 <= (int) args[2] && (int) args[2] < 2, ELEMENT).whole().tryAll();
    call("goes", RefusedCalls::mixed).program().row().statement()
        .from("side: 0 or 1", 0, 1, INDEX).whole().tryAll();
  }

  private static void paths() {
    for (String name : new String[] {"paths", "goals", "covered", "suite", "goalsAreTrue"}) {
      call(name, RefusedCalls::mixed).program().whole().tryAll();
    }
    call("taken", RefusedCalls::mixed).program().from("i: the number of a path", 0, 1, ELEMENT)
        .letters("what: f the least row that takes it, n how many take it, w the statement at"
            + " which it ends, c how many conditions it has, o how many outputs", "fnwco")
        .whole().tryAll();
    call("ending", RefusedCalls::mixed).program().from("i: the number of a path", 0, 1, ELEMENT)
        .whole().tryAll();
    call("condition", RefusedCalls::mixed).program()
        .from("i: the number of a path", 0, 1, ELEMENT)
        .from("j: the number of a condition", 0, 0, ELEMENT)
        .letters("what: s the statement, k the letter of its kind as a number, h 1 if it has the"
            + " side 1, otherwise 0, z the size of its term", "skhz").whole().tryAll();
    call("conditionSign", RefusedCalls::mixed).program()
        .from("i: the number of a path", 0, 1, ELEMENT)
        .from("j: the number of a condition", 0, 0, ELEMENT).whole().tryAll();
    call("holds", RefusedCalls::mixed).program().from("i: the number of a path", 0, 1, ELEMENT)
        .from("j: the number of a condition", 0, 0, ELEMENT).row().whole().tryAll();
    call("outputSign", RefusedCalls::mixed).program()
        .from("i: the number of a path", 0, 1, ELEMENT)
        .from("j: the number of an output", 0, 1, ELEMENT).whole().tryAll();
    call("outputValue", RefusedCalls::mixed).program()
        .from("i: the number of a path", 0, 1, ELEMENT)
        .from("j: the number of an output", 0, 1, ELEMENT).row().whole().tryAll();
  }

  private static Pathwright kept(int count) {
    Pathwright x = mixed();
    for (int n = 0; n < count; n++) {
      x.keep(63 - n);
    }
    return x;
  }

  private static void goals() {
    call("reaching", RefusedCalls::mixed).program().statement()
        .from("side: 0 or 1", 0, 1, INDEX).whole().tryAll();
    for (int count : new int[] {0, 1, 15, 16}) {
      call("keep", () -> kept(count)).row()
          .state(args -> count < 16 || (int) args[0] >= 64 - count).tryAll();
      call("kept", () -> kept(count))
          .from("i: 0 to the number of kept rows less 1", 0, count - 1, INDEX).tryAll();
      call("fuzz", () -> kept(count)).program().from("rounds: 1 to 40", 1, 40, ARGUMENT)
          .any("seed: any", MIN, -1, 0, 1, MAX).whole().tryAll();
    }
  }

  private static void bothPrograms() {
    for (int whole = 0; whole < 4; whole++) {
      int which = whole;
      call("unlike", () -> {
        Pathwright x = with((which & 1) == 0 ? BROKEN : WHOLE);
        return put(x, 1, (which & 2) == 0 ? BROKEN : WHOLE);
      }).state(args -> which == 3).tryAll();
    }
  }

  // ---- one object, and all that can refuse it

  /** Behind each refused call all answers are as they were, those of paths and terms, too. */
  private static void nothingChanges() {
    Pathwright x = terms(24);
    put(x, 0, "a0;".repeat(34));
    for (int row = 0; row < 16; row++) {
      x.keep(row);
    }
    typeAll(x, "k9,".repeat(80));
    x.fix(1, 3);
    String before = allOf(x) + reachOf(x, 23) + x.conditionSign(0, 0, 0);
    raises("width", STATE, x, () -> x.width(0, 4));
    raises("fix", ARGUMENT, x, () -> x.fix(0, 4));
    raises("number", STATE, x, () -> x.number(1));
    raises("make", STATE, x, () -> x.make('+', 0, 0));
    raises("add", STATE, x, () -> x.add(0, 'o', 0, 0, 0));
    raises("set", ARGUMENT, x, () -> x.set(0, 0, 1, 4));
    raises("insert", STATE, x, () -> x.insert(0, 0, 0));
    raises("drop", INDEX, x, () -> x.drop(0, 40));
    raises("way", ARGUMENT, x, () -> x.way(0, 'x'));
    raises("limit", ARGUMENT, x, () -> x.limit(0, 's', 121));
    raises("type", STATE, x, () -> x.type('#', '#', 'a', '#'));
    raises("keep", STATE, x, () -> x.keep(16));
    raises("suite", STATE, x, () -> x.suite(1));
    raises("fuzz", ARGUMENT, x, () -> x.fuzz(0, 41, 1));
    raises("taken", ELEMENT, x, () -> x.taken(0, 2, 'f'));
    raises("unlike", STATE, x, () -> x.unlike());
    eq("a text that is none", x.read(0), -2);
    eq("all answers", allOf(x) + reachOf(x, 23) + x.conditionSign(0, 0, 0), before);
  }
}
