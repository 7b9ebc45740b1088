import java.lang.reflect.InvocationTargetException;
import java.lang.reflect.Method;
import java.util.ArrayList;
import java.util.Arrays;
import java.util.HashMap;
import java.util.List;
import java.util.Map;
import java.util.Random;

/**
 * Runs of calls made up by seeds, each one on a fresh Pathwright and a fresh Oracle: both must
 * answer alike, throw alike, and have the same checksum in the end. Some runs go on to the 512th
 * call. Told a first seed and a number of runs, it makes those instead.
 */
public final class RandomRunsTest {
  private static final int CALLS = 150;
  private static final int LIFE = 512;
  private static final Map<String, Method> OURS = faceOf(Pathwright.class);
  private static final Map<String, Method> THEIRS = faceOf(Oracle.class);
  private static final String[] WEIGHTED = weighted();
  private static final String DATA = "kkiiim+++--**|^==<<ffpprggssggssooo/%a";
  private static final String PLAIN = "kim+-*&|^=<fpprr";

  private final Random random;
  private final Pathwright ours = new Pathwright();
  private final Oracle theirs = new Oracle();
  private final List<String> told = new ArrayList<>();
  private boolean isWrong;
  private boolean isEnding;

  private RandomRunsTest(long seed) {
    random = new Random(seed);
  }

  public static void main(String[] args) throws Exception {
    long first = args.length > 0 ? Long.parseLong(args[0]) : 1;
    int runs = args.length > 1 ? Integer.parseInt(args[1]) : 500;
    int[] wrong = {-1};
    // The oracle goes down terms by recursion, and they can be thousands of levels deep.
    Thread thread = new Thread(null, () -> wrong[0] = runAll(first, runs), "runs", 1L << 28);
    thread.start();
    thread.join();
    System.out.println(runs + " runs, " + wrong[0] + " wrong");
    // -1 is left if the thread itself ended by an exception.
    System.exit(wrong[0] == 0 ? 0 : 1);
  }

  private static int runAll(long first, int runs) {
    int wrong = 0;
    for (int i = 0; i < runs && wrong < 3; i++) {
      RandomRunsTest run = new RandomRunsTest(first + i);
      run.go();
      if (run.isWrong) {
        wrong++;
        System.out.println("seed " + (first + i) + " is wrong:");
        run.told.forEach(line -> System.out.println("  " + line));
      }
    }
    return wrong;
  }

  private static Map<String, Method> faceOf(Class<?> type) {
    Map<String, Method> face = new HashMap<>();
    for (Method method : type.getDeclaredMethods()) {
      if (java.lang.reflect.Modifier.isPublic(method.getModifiers())) {
        face.put(method.getName(), method);
      }
    }
    return face;
  }

  private static String[] weighted() {
    String often = "end where steps forks outputs output goes paths path taken ending condition"
        + " conditionSign holds outputSign outputValue isTrue goals reaching covered";
    String seldom = "width clear copy erase forget unkeep drop insert add";
    List<String> all = new ArrayList<>(new java.util.TreeSet<>(OURS.keySet()));
    List<String> names = new ArrayList<>();
    for (String name : all) {
      int weight = (" " + often + " ").contains(" " + name + " ") ? 4
          : (" " + seldom + " ").contains(" " + name + " ") ? 1 : 2;
      for (int i = 0; i < weight; i++) {
        names.add(name);
      }
    }
    return names.toArray(new String[0]);
  }

  private void go() {
    int style = random.nextInt(4);
    boolean isLong = random.nextInt(5) == 0;
    setUp();
    for (int i = 0; (i < CALLS || isLong) && !isWrong && told.size() < LIFE - 1; i++) {
      if (random.nextInt(40) == 0) {
        writeProgram(random.nextInt(2));
      }
      String name = WEIGHTED[random.nextInt(WEIGHTED.length)];
      if (style != 0 && "add set insert drop clear width type read".contains(name)
          && random.nextInt(10) != 0) {
        continue;
      }
      call(name);
    }
    isEnding = true;
    tell("checksum");
  }

  private void setUp() {
    if (random.nextInt(3) == 0) {
      for (int k = 0; k < 4; k++) {
        tell("width", k, random.nextInt(5));
      }
    }
    for (int p = 0; p < 2; p++) {
      writeProgram(p);
    }
    if (random.nextInt(3) == 0) {
      tell("copy", 0);
      if (count(1) > 0) {
        tell("set", 1, random.nextInt(count(1)), random.nextInt(3), random.nextInt(8));
      }
    }
    if (random.nextInt(3) == 0) {
      tell("fix", random.nextInt(4), random.nextInt(3));
    }
  }

  // ---- programs made up

  private List<int[]> statements;
  private int opened;
  private int variables;
  private int functions;
  private boolean isLarge;

  private void writeProgram(int p) {
    tell("clear", p);
    char way = "wwsttt".charAt(random.nextInt(6));
    tell("way", p, way);
    tell("merge", p, random.nextBoolean());
    if (random.nextInt(2) == 0) {
      tell("limit", p, 'r', 1 + random.nextInt(6));
      tell("limit", p, 's', 10 + random.nextInt(111));
      tell("limit", p, 'b', random.nextInt(13));
    }
    statements = new ArrayList<>();
    variables = 3 + random.nextInt(random.nextInt(3) == 0 ? 6 : 2);
    isLarge = random.nextInt(way == 't' ? 2 : 5) == 0;
    functions = random.nextInt(2) == 0 ? 1 + random.nextInt(3) : 0;
    opened = 0;
    boolean isEarly = random.nextBoolean();
    if (isEarly) {
      bodies();
    }
    for (int k = 0; k < 4; k++) {
      if (random.nextInt(8) > 0) {
        put('i', random.nextInt(3) == 0 ? random.nextInt(variables) : k % variables, k, 0);
      }
    }
    for (int i = isLarge ? 1 + random.nextInt(3) : 0; i > 0; i--) {
      put('k', random.nextInt(variables), 32767 - random.nextInt(4), 0);
    }
    int most = 8 + random.nextInt(isEarly || functions == 0 ? 28 : 18);
    while (statements.size() < most) {
      block(1 + random.nextInt(8), false, most);
    }
    for (int i = random.nextInt(3); i > 0; i--) {
      put('o', random.nextInt(variables), 0, 0);
    }
    if (!isEarly) {
      bodies();
    }
    for (int[] st : statements) {
      tell("add", p, (char) st[0], st[1], st[2], st[3]);
    }
  }

  private void bodies() {
    for (int f = 0; f < functions; f++) {
      put('d', f, 0, 0);
      opened++;
      int room = statements.size() + 1 + random.nextInt(6);
      block(1 + random.nextInt(5), false, room);
      if (random.nextBoolean()) {
        put('v', variable(), 0, 0);
      }
      opened--;
      put('.', 0, 0, 0);
    }
  }

  private void put(char letter, int x, int y, int z) {
    statements.add(new int[] {letter, x, y, z});
  }

  private int variable() {
    return random.nextInt(6) == 0 ? 6 + random.nextInt(2) : random.nextInt(variables);
  }

  private void block(int size, boolean isPlain, int most) {
    for (int i = 0; i < size && statements.size() < most; i++) {
      int what = random.nextInt(12);
      if (what < 3 && opened < 6) {
        boolean isInside = isPlain || random.nextInt(2) == 0;
        char letter = isInside || random.nextInt(3) > 0 ? '?' : 'w';
        put(letter, variable(), 0, 0);
        opened++;
        block(1 + random.nextInt(4), isInside && letter == '?', most);
        if (letter == '?' && random.nextInt(2) == 0) {
          put(':', 0, 0, 0);
          block(1 + random.nextInt(4), isInside, most);
        }
        opened--;
        put('.', 0, 0, 0);
      } else if (what == 3 && !isPlain) {
        if (functions > 0 && random.nextInt(20) > 0) {
          put('x', variable(), random.nextInt(functions), variable());
        } else if (random.nextInt(4) == 0) {
          put(random.nextInt(3) == 0 ? 'x' : 'v', variable(), random.nextInt(3), 0);
        }
      } else {
        data(isPlain ? PLAIN : DATA);
      }
    }
  }

  private void data(String letters) {
    char letter = letters.charAt(random.nextInt(letters.length()));
    switch (letter) {
      case 'k':
        int[] numbers = {32767, -32768, 32766, random.nextInt(65536) - 32768, 1, 0, -1, 2, 3, 4};
        put('k', variable(), numbers[isLarge ? random.nextInt(5) : 3 + random.nextInt(7)], 0);
        break;
      case 'i':
        put('i', variable(), random.nextInt(4), 0);
        break;
      case 'f':
        put('f', variable(), random.nextInt(2), random.nextInt(3));
        break;
      case 'p':
        put('p', random.nextInt(2), random.nextInt(3), variable());
        break;
      case 'r':
        put('r', random.nextInt(2), random.nextInt(2), 0);
        break;
      default:
        put(letter, variable(), variable(), variable());
        break;
    }
  }

  // ---- calls made up

  private int count(int p) {
    return theirs.progs[p].st.size();
  }

  /** Mostly in range, sometimes at its edges or beyond. */
  private int below(int n) {
    int how = random.nextInt(30);
    if (how == 0) {
      return -1;
    }
    if (how == 1) {
      return n;
    }
    if (how == 2) {
      return random.nextBoolean() ? Integer.MAX_VALUE : Integer.MIN_VALUE;
    }
    return n > 0 ? random.nextInt(n) : 0;
  }

  private char oneOf(String letters) {
    return random.nextInt(30) == 0 ? (char) random.nextInt(300)
        : letters.charAt(random.nextInt(letters.length()));
  }

  private void call(String name) {
    int p = below(2);
    int row = below(theirs.rows());
    int n = p == 0 || p == 1 ? count(p) : 0;
    int paths = n > 0 && Oracle.faultOf(theirs.progs[p]) < 0 ? theirs.paths(p) : 1;
    int terms = theirs.terms.size();
    int path = below(paths);
    boolean isAsked = "condition conditionSign holds outputSign outputValue".contains(name);
    boolean isPath = isAsked && paths > 1 && path >= 0 && path < paths;
    int conditions = isPath ? theirs.termWalk(p, path).conditions.size() : 1;
    int outs = isPath ? theirs.termWalk(p, path).outs.size() : 2;
    switch (name) {
      case "width":
        tell(name, below(4), below(5));
        break;
      case "fix":
        tell(name, below(4), below(3));
        break;
      case "free":
      case "input":
        tell(name, below(4));
        break;
      case "part":
        tell(name, row, below(4));
        break;
      case "isLet":
      case "keep":
        tell(name, row);
        break;
      case "number":
        int[] numbers = {0, 1, 2, -1, Integer.MAX_VALUE, Integer.MIN_VALUE, random.nextInt()};
        tell(name, numbers[random.nextInt(numbers.length)]);
        break;
      case "make":
        for (int i = 0; i < 3; i++) {
          tell(name, oneOf("+-*/%&|^=<"), below(theirs.terms.size()), below(theirs.terms.size()));
        }
        break;
      case "choose":
        tell(name, below(terms), below(terms), below(terms));
        break;
      case "narrow":
        tell(name, oneOf("ws"), new int[] {16, 32, 16, 32, 8}[random.nextInt(5)], below(terms));
        break;
      case "size":
      case "sign":
      case "first":
      case "many":
        tell(name, below(terms));
        break;
      case "reach":
        tell(name, below(terms), oneOf("lg"));
        break;
      case "value":
        tell(name, below(terms), row);
        break;
      case "differ":
        tell(name, below(terms), below(terms));
        break;
      case "add":
        tell(name, p, oneOf("kim+-*/%&|^=<gsfprao?wdxv:."), below(8), below(4), below(4));
        break;
      case "set":
        tell(name, p, below(n), below(3), below(8));
        break;
      case "insert":
        tell(name, p, below(n + 1), below(n));
        break;
      case "drop":
        tell(name, p, below(n));
        break;
      case "look":
        tell(name, p, below(n), below(4));
        break;
      case "way":
        tell(name, p, oneOf("wst"));
        break;
      case "limit":
        tell(name, p, oneOf("rsb"), random.nextInt(4) == 0 ? below(121) : 10 + below(3));
        break;
      case "type":
        tellText();
        break;
      case "written":
        tell(name, p, below(200));
        break;
      case "end":
      case "where":
      case "steps":
      case "forks":
      case "outputs":
      case "shrink":
      case "path":
      case "isTrue":
        tell(name, p, row);
        break;
      case "output":
        tell(name, p, row, below(4));
        break;
      case "goes":
        tell(name, p, row, below(n), below(2));
        break;
      case "reaching":
        tell(name, p, below(n), below(2));
        break;
      case "merge":
        tell(name, p, random.nextBoolean());
        break;
      case "taken":
        tell(name, p, below(paths), oneOf("fnwco"));
        break;
      case "ending":
        tell(name, p, below(paths));
        break;
      case "condition":
        tell(name, p, path, below(conditions), oneOf("skhz"));
        break;
      case "conditionSign":
        tell(name, p, path, below(conditions));
        break;
      case "outputSign":
        tell(name, p, path, below(outs));
        break;
      case "outputValue":
        tell(name, p, path, below(outs), row);
        break;
      case "holds":
        tell(name, p, path, below(conditions), row);
        break;
      case "kept":
        tell(name, below(theirs.keptRows.size()));
        break;
      case "fuzz":
        tell(name, p, below(41), random.nextInt());
        break;
      case "clear":
      case "copy":
      case "count":
      case "check":
      case "read":
      case "paths":
      case "goals":
      case "covered":
      case "suite":
      case "goalsAreTrue":
        tell(name, p);
        break;
      default:
        tell(name);
        break;
    }
  }

  /** Types the text of a program, often with a letter changed, and reads it. */
  private void tellText() {
    if (random.nextInt(3) > 0) {
      tell("erase");
    }
    StringBuilder text = new StringBuilder(Oracle.textOf(theirs.progs[random.nextInt(2)]));
    text.setLength(Math.min(text.length(), 4 * (1 + random.nextInt(60))));
    if (random.nextInt(2) == 0) {
      int end = text.lastIndexOf(";");
      text.setLength(end + 1);
    }
    if (text.length() > 0 && random.nextInt(3) == 0) {
      text.setCharAt(random.nextInt(text.length()), oneOf("0123789,;-kim.:?x#"));
    }
    while (text.length() % 4 != 0) {
      text.append('#');
    }
    for (int i = 0; i < text.length(); i += 4) {
      tell("type", text.charAt(i), text.charAt(i + 1), text.charAt(i + 2), text.charAt(i + 3));
    }
    tell("read", random.nextInt(2));
  }

  private void tell(String name, Object... args) {
    if (isWrong || told.size() >= (isEnding ? LIFE : LIFE - 1)) {
      return;
    }
    String got = answer(OURS.get(name), ours, args);
    String due = answer(THEIRS.get(name), theirs, args);
    String line = name + Arrays.toString(args) + " -> " + got;
    if (!got.equals(due)) {
      isWrong = true;
      line += ", but due is " + due;
    }
    told.add(line);
  }

  private static String answer(Method method, Object on, Object[] args) {
    try {
      Object got = method.invoke(on, args);
      return got instanceof Character ? String.valueOf((int) (Character) got) : String.valueOf(got);
    } catch (InvocationTargetException e) {
      Throwable thrown = e.getCause();
      boolean isThrownByHand = on instanceof Oracle
          || thrown.getStackTrace()[0].getMethodName().startsWith("require");
      return thrown.getClass().getSimpleName() + (isThrownByHand ? "" : " of the machine");
    } catch (IllegalAccessException e) {
      throw new IllegalStateException(e);
    }
  }
}
