import java.util.Arrays;
import java.util.NoSuchElementException;

/**
 * Two programs of a small language, walked with plain numbers and with terms in place of numbers.
 *
 * <p>All rows of an object are made with it and used again by every call: a run of calls lives in
 * one room, and nothing in it is ever given back.
 */
public final class Pathwright {
  private static final int INPUTS = 4;
  private static final int PROGRAMS = 2;
  private static final int MOST_WIDTH = 4;
  private static final int MOST_BITS = 6;
  private static final int MOST_ROWS = 64;
  private static final int MOST_MADE = 24;
  private static final int MOST_STATEMENTS = 40;
  private static final int MOST_BLOCKS = 6;
  private static final int MOST_CALLS = 3;
  private static final int MOST_OUTPUTS = 12;
  private static final int MOST_KEPT = 16;
  private static final int MOST_TYPED = 240;
  private static final int MOST_FUZZ = 40;
  private static final int VARIABLES = 8;
  private static final int FIRST_WIDE = 6;
  private static final int FIELDS = 3;
  private static final int RECORDS = 2;
  private static final int FUNCTIONS = 3;
  private static final int MOST_ELEMENTS = 6;
  private static final int FREE = -1;
  private static final int NONE = -1;

  // A walk has at most 120 steps, and a plain block is one of them; twenty forks a step never come.
  private static final int MOST_FORKS = 2048;
  private static final int MOST_TURNS = 1000000;

  // A walk makes fewer than 20,000 terms; the arrays begin small and are doubled up to here.
  private static final int FIRST_TERMS = 256;
  private static final int MOST_TERMS = 32768;
  private static final int TERMS_A_TURN = 64;
  private static final int BUCKETS = 1024;

  // The kinds of terms that are no letters; each one is also what the sign of its terms ends with.
  private static final int NUMBER = 1;
  private static final int INPUT = 2;
  private static final int LETTER = 3;
  private static final int CHOICE = 4;
  private static final int WRAPPED = 5;
  private static final int CUT = 6;
  private static final int NO_TERM = -1;
  private static final int TERM_0 = -2;
  private static final int TERM_1 = -3;
  private static final long Q = 1000003L;

  private static final long LEAST_INT = -2147483648L;
  private static final long GREATEST_INT = 2147483647L;
  private static final long LEAST_SHORT = -32768L;
  private static final long GREATEST_SHORT = 32767L;

  private static final String TERM_LETTERS = "+-*/%&|^=<";

  // Below each letter stand the kinds of its x, y and z: a variable, a number, an input,
  // a record, a field or a function (both 0 to 2), or none.
  private static final String LETTERS = "kim+-*/%&|^=<gsfprao?wdxv:.";
  private static final String X_KINDS = "vvvvvvvvvvvvvvvvrrvvvvdvv__";
  private static final String Y_KINDS = "nkvvvvvvvvvvvvvrdr_____d___";
  private static final String Z_KINDS = "___vvvvvvvvvv__dv______v___";
  private static final String PLAIN_LETTERS = "kim+-*&|^=<fpr?:.";

  private final Inputs inputs;
  private final Terms made;
  private final int[] madeTerms;
  private final int[] madeSizes;
  private int madeCount;
  private final Program[] programs;
  private final Survey[] surveys;
  private final Route route;
  private final Script script;
  private final int[] keptRows;
  private int keptCount;
  private int chance;

  /** Widths 2, 2, 1 and 1; no terms, no statements, no kept rows, no letters. */
  public Pathwright() {
    inputs = new Inputs();
    made = new Terms(inputs);
    madeTerms = new int[MOST_MADE];
    madeSizes = new int[MOST_MADE];
    programs = new Program[PROGRAMS];
    surveys = new Survey[PROGRAMS];
    Machine machine = new Machine();
    for (int p = 0; p < PROGRAMS; p++) {
      programs[p] = new Program();
      surveys[p] = new Survey(programs[p], inputs, machine);
    }
    route = new Route(inputs, machine);
    script = new Script();
    keptRows = new int[MOST_KEPT];
  }

  // ---- inputs

  /** Gives an input a width; it is free then. Returns how many rows there are. */
  public int width(int k, int bits)
      throws IndexOutOfBoundsException, IllegalArgumentException, IllegalStateException {
    requireInput(k);
    requireGood(0 <= bits && bits <= MOST_WIDTH);
    requireState(inputs.allBits() - inputs.widths[k] + bits <= MOST_BITS);
    inputs.widths[k] = bits;
    inputs.fixed[k] = FREE;
    dropTermsWith(k);
    dropLostRows();
    for (int p = 0; p < PROGRAMS; p++) {
      forgetWalks(p);
    }
    return inputs.rowCount();
  }

  /** Fixes an input at a value. Returns how many rows are let then. */
  public int fix(int k, int value) throws IndexOutOfBoundsException, IllegalArgumentException {
    requireInput(k);
    requireGood(0 <= value && value <= inputs.greatestOf(k));
    inputs.fixed[k] = value;
    forgetPaths();
    return inputs.letCount();
  }

  /** Lets an input have all its values again. Returns how many rows are let then. */
  public int free(int k) throws IndexOutOfBoundsException {
    requireInput(k);
    inputs.fixed[k] = FREE;
    forgetPaths();
    return inputs.letCount();
  }

  /** Returns how many rows there are. */
  public int rows() {
    return inputs.rowCount();
  }

  /** Returns what a row gives to an input. */
  public int part(int row, int k) throws IndexOutOfBoundsException {
    requireRow(row);
    requireInput(k);
    return inputs.valueIn(row, k);
  }

  /** Tells whether a row is let. */
  public boolean isLet(int row) throws IndexOutOfBoundsException {
    requireRow(row);
    return inputs.lets(row);
  }

  // ---- terms

  /** Makes a number. Returns the number of the term. */
  public int number(int value) throws IllegalStateException {
    requireState(madeCount < MOST_MADE);
    return shelve(made.ofNumber(value));
  }

  /** Makes an input. Returns the number of the term. */
  public int input(int k) throws IndexOutOfBoundsException, IllegalStateException {
    requireInput(k);
    requireState(madeCount < MOST_MADE);
    return shelve(made.inputTerm(k));
  }

  /** Makes a term of two. Returns the number of the term. */
  public int make(char letter, int x, int y)
      throws IndexOutOfBoundsException, IllegalArgumentException, IllegalStateException {
    requireTerm(x);
    requireTerm(y);
    requireGood(TERM_LETTERS.indexOf(letter) >= 0);
    requireState(madeCount < MOST_MADE);
    if (letter == '=' || letter == '<') {
      return shelve(made.ofLetter(letter, madeTerms[x], madeTerms[y]));
    }
    return shelve(made.ofLetter(letter, made.fitted(madeTerms[x]), made.fitted(madeTerms[y])));
  }

  /** Makes a choice. Returns the number of the term. */
  public int choose(int c, int x, int y) throws IndexOutOfBoundsException, IllegalStateException {
    requireTerm(c);
    requireTerm(x);
    requireTerm(y);
    requireState(madeCount < MOST_MADE);
    return shelve(made.ofChoice(madeTerms[c], madeTerms[x], madeTerms[y]));
  }

  /** Makes a narrowed term. Returns the number of the term. */
  public int narrow(char how, int bits, int x)
      throws IndexOutOfBoundsException, IllegalArgumentException, IllegalStateException {
    requireTerm(x);
    requireGood((how == 'w' || how == 's') && (bits == 16 || bits == 32));
    requireState(madeCount < MOST_MADE);
    return shelve(made.ofNarrowed(how == 'w' ? WRAPPED : CUT, bits, madeTerms[x]));
  }

  /** Takes all terms away. Returns how many there were. */
  public int forget() {
    int had = madeCount;
    madeCount = 0;
    made.cutTo(0);
    return had;
  }

  /** Returns how many unlike terms a term has in it, itself among them. */
  public int size(int x) throws IndexOutOfBoundsException {
    requireTerm(x);
    return made.sizeOf(madeTerms[x]);
  }

  /** Returns the sign of a term. */
  public long sign(int x) throws IndexOutOfBoundsException {
    requireTerm(x);
    return made.signs[madeTerms[x]];
  }

  /** Returns an end of the reach of a term. */
  public long reach(int x, char end) throws IndexOutOfBoundsException, IllegalArgumentException {
    requireTerm(x);
    requireGood(end == 'l' || end == 'g');
    return end == 'l' ? made.leasts[madeTerms[x]] : made.greatests[madeTerms[x]];
  }

  /** Returns the value of a term for a row. */
  public long value(int x, int row) throws IndexOutOfBoundsException {
    requireTerm(x);
    requireRow(row);
    made.reckon(row);
    return made.worths[madeTerms[x]];
  }

  /** Returns the least row that is let for which a term is not 0, -1 if there is none. */
  public int first(int x) throws IndexOutOfBoundsException {
    requireTerm(x);
    for (int row = 0; row < inputs.rowCount(); row++) {
      if (inputs.lets(row)) {
        made.reckon(row);
        if (made.worths[madeTerms[x]] != 0) {
          return row;
        }
      }
    }
    return NONE;
  }

  /** Returns for how many rows that are let a term is not 0. */
  public int many(int x) throws IndexOutOfBoundsException {
    requireTerm(x);
    int found = 0;
    for (int row = 0; row < inputs.rowCount(); row++) {
      if (inputs.lets(row)) {
        made.reckon(row);
        if (made.worths[madeTerms[x]] != 0) {
          found++;
        }
      }
    }
    return found;
  }

  /** Returns the least row that is let for which two terms have unlike values, or -1. */
  public int differ(int x, int y) throws IndexOutOfBoundsException {
    requireTerm(x);
    requireTerm(y);
    for (int row = 0; row < inputs.rowCount(); row++) {
      if (inputs.lets(row)) {
        made.reckon(row);
        if (made.worths[madeTerms[x]] != made.worths[madeTerms[y]]) {
          return row;
        }
      }
    }
    return NONE;
  }

  // ---- programs

  /** Puts a statement behind the others. Returns how many statements the program has then. */
  public int add(int p, char letter, int x, int y, int z)
      throws IndexOutOfBoundsException, IllegalArgumentException, IllegalStateException {
    requireProgram(p);
    requireGood(LETTERS.indexOf(letter) >= 0);
    requireGood(!hasNumber(letter, 1) || isInRange(letter, 1, x));
    requireGood(!hasNumber(letter, 2) || isInRange(letter, 2, y));
    requireGood(!hasNumber(letter, 3) || isInRange(letter, 3, z));
    requireState(programs[p].length < MOST_STATEMENTS);
    programs[p].append(letter, x, y, z);
    forgetWalks(p);
    return programs[p].length;
  }

  /** Changes a number of a statement. Returns what it was. */
  public int set(int p, int s, int which, int value)
      throws IndexOutOfBoundsException, IllegalArgumentException {
    requireProgram(p);
    requireStatement(p, s);
    requireIndex(0 <= which && which <= 2);
    int letter = programs[p].parts[0][s];
    requireGood(hasNumber(letter, which + 1) && isInRange(letter, which + 1, value));
    int was = programs[p].parts[which + 1][s];
    programs[p].parts[which + 1][s] = value;
    programs[p].isSurveyed = false;
    forgetWalks(p);
    return was;
  }

  /** Puts a statement like one that there is ahead of another one, or behind all. */
  public int insert(int p, int s, int from)
      throws IndexOutOfBoundsException, IllegalStateException {
    requireProgram(p);
    requireIndex(0 <= s && s <= programs[p].length);
    requireStatement(p, from);
    requireState(programs[p].length < MOST_STATEMENTS);
    programs[p].insertLike(s, from);
    forgetWalks(p);
    return programs[p].length;
  }

  /** Takes a statement away. Returns how many statements the program has then. */
  public int drop(int p, int s) throws IndexOutOfBoundsException {
    requireProgram(p);
    requireStatement(p, s);
    programs[p].remove(s);
    forgetWalks(p);
    return programs[p].length;
  }

  /** Takes all statements away. Returns how many there were. */
  public int clear(int p) throws IndexOutOfBoundsException {
    requireProgram(p);
    int had = programs[p].length;
    programs[p].length = 0;
    programs[p].isSurveyed = false;
    forgetWalks(p);
    return had;
  }

  /** Makes the other program like this one. Returns how many statements it has. */
  public int copy(int p) throws IndexOutOfBoundsException {
    requireProgram(p);
    programs[1 - p].becomeLike(programs[p]);
    forgetWalks(1 - p);
    return programs[p].length;
  }

  /** Returns how many statements a program has. */
  public int count(int p) throws IndexOutOfBoundsException {
    requireProgram(p);
    return programs[p].length;
  }

  /** Returns a part of a statement: its letter as a number, x, y or z. */
  public int look(int p, int s, int which) throws IndexOutOfBoundsException {
    requireProgram(p);
    requireStatement(p, s);
    requireIndex(0 <= which && which <= 3);
    return programs[p].parts[which][s];
  }

  /** Returns -1 if a program is whole, otherwise where it is not. */
  public int check(int p) throws IndexOutOfBoundsException {
    requireProgram(p);
    return programs[p].faultAt();
  }

  /** Gives a program a way. Returns the way that it had. */
  public char way(int p, char way) throws IndexOutOfBoundsException, IllegalArgumentException {
    requireProgram(p);
    requireGood(way == 'w' || way == 's' || way == 't');
    char had = programs[p].manner;
    programs[p].manner = way;
    programs[p].isSurveyed = false;
    forgetWalks(p);
    return had;
  }

  /** Gives a program a limit. Returns what it was. */
  public int limit(int p, char what, int value)
      throws IndexOutOfBoundsException, IllegalArgumentException {
    requireProgram(p);
    Program program = programs[p];
    int was = 0;
    if (what == 'r') {
      requireGood(1 <= value && value <= MOST_ELEMENTS);
      was = program.rowLength;
      program.rowLength = value;
    } else if (what == 's') {
      requireGood(10 <= value && value <= 120);
      was = program.stepLimit;
      program.stepLimit = value;
    } else {
      requireGood(what == 'b' && 0 <= value && value <= 12);
      was = program.roundLimit;
      program.roundLimit = value;
    }
    forgetWalks(p);
    return was;
  }

  // ---- texts

  /** Types letters behind those that are typed. Returns how many are typed then. */
  public int type(char a, char b, char c, char d) throws IllegalStateException {
    int more = isTyped(a) + isTyped(b) + isTyped(c) + isTyped(d);
    requireState(script.length + more <= MOST_TYPED);
    typeOne(a);
    typeOne(b);
    typeOne(c);
    typeOne(d);
    return script.length;
  }

  /** Takes all typed letters away. Returns how many there were. */
  public int erase() {
    int had = script.length;
    script.length = 0;
    return had;
  }

  /** Makes a program of what is typed. Returns how many statements it has, or -1 less the fault. */
  public int read(int p) throws IndexOutOfBoundsException {
    requireProgram(p);
    int found = script.parse();
    if (found >= 0) {
      programs[p].takeStatements(script.parsed, found);
      forgetWalks(p);
    }
    return found;
  }

  /** Returns a letter of the text of a program as a number, -1 if there is none. */
  public int written(int p, int i) throws IndexOutOfBoundsException {
    requireProgram(p);
    return script.letterOf(programs[p], i);
  }

  // ---- walks

  /** Tells how the walk of a row ends. */
  public char end(int p, int row) throws IndexOutOfBoundsException, IllegalStateException {
    requireWalk(p, row);
    return surveys[p].walkOf(row).endLetter;
  }

  /** Tells at which statement the walk of a row ends. */
  public int where(int p, int row) throws IndexOutOfBoundsException, IllegalStateException {
    requireWalk(p, row);
    return surveys[p].walkOf(row).endAt;
  }

  /** Returns how many steps the walk of a row has. */
  public int steps(int p, int row) throws IndexOutOfBoundsException, IllegalStateException {
    requireWalk(p, row);
    return surveys[p].walkOf(row).stepCount;
  }

  /** Returns how many forks the walk of a row has. */
  public int forks(int p, int row) throws IndexOutOfBoundsException, IllegalStateException {
    requireWalk(p, row);
    return surveys[p].walkOf(row).forkCount;
  }

  /** Returns how many outputs the walk of a row has. */
  public int outputs(int p, int row) throws IndexOutOfBoundsException, IllegalStateException {
    requireWalk(p, row);
    return surveys[p].walkOf(row).outCount;
  }

  /** Returns an output of the walk of a row. */
  public int output(int p, int row, int i)
      throws IndexOutOfBoundsException, IllegalStateException, NoSuchElementException {
    requireWalk(p, row);
    Trace walk = surveys[p].walkOf(row);
    requireElement(i, walk.outCount);
    return (int) walk.outs[i];
  }

  /** Tells whether the walk of a row covers a goal. */
  public boolean goes(int p, int row, int s, int side)
      throws IndexOutOfBoundsException, IllegalStateException {
    requireProgram(p);
    requireRow(row);
    requireStatement(p, s);
    requireIndex(side == 0 || side == 1);
    requireWhole(p);
    return surveys[p].walkOf(row).covers(s, side);
  }

  // ---- paths

  /** Lets a program merge, or not. Returns whether it did. */
  public boolean merge(int p, boolean isOn) throws IndexOutOfBoundsException {
    requireProgram(p);
    boolean did = programs[p].merges;
    programs[p].merges = isOn;
    forgetWalks(p);
    return did;
  }

  /** Returns how many paths a program has. */
  public int paths(int p) throws IndexOutOfBoundsException, IllegalStateException {
    requireProgram(p);
    requireWhole(p);
    return surveys[p].pathsFound();
  }

  /** Tells which path a row takes, -1 if it is not let. */
  public int path(int p, int row) throws IndexOutOfBoundsException, IllegalStateException {
    requireWalk(p, row);
    return surveys[p].pathsFound() > 0 ? surveys[p].pathOf[row] : NONE;
  }

  /** Tells of a path: its least row, how many take it, where it ends, conditions, outputs. */
  public int taken(int p, int i, char what)
      throws IndexOutOfBoundsException,
          IllegalArgumentException,
          IllegalStateException,
          NoSuchElementException {
    requireProgram(p);
    requireGood("fnwco".indexOf(what) >= 0);
    requireWhole(p);
    requireElement(i, surveys[p].pathsFound());
    if (what == 'f') {
      return surveys[p].leastRows[i];
    }
    if (what == 'n') {
      return surveys[p].takers[i];
    }
    route.follow(surveys[p], i);
    if (what == 'w') {
      return route.trace.endAt;
    }
    return what == 'c' ? route.trace.conditionCount : route.trace.outCount;
  }

  /** Tells how a path ends. */
  public char ending(int p, int i)
      throws IndexOutOfBoundsException, IllegalStateException, NoSuchElementException {
    requireProgram(p);
    requireWhole(p);
    requireElement(i, surveys[p].pathsFound());
    route.follow(surveys[p], i);
    return route.trace.endLetter;
  }

  /** Tells of a condition: its statement, its kind, its side, the size of its term. */
  public int condition(int p, int i, int j, char what)
      throws IndexOutOfBoundsException,
          IllegalArgumentException,
          IllegalStateException,
          NoSuchElementException {
    requireProgram(p);
    requireGood("skhz".indexOf(what) >= 0);
    requireWhole(p);
    requireElement(i, surveys[p].pathsFound());
    route.follow(surveys[p], i);
    requireElement(j, route.trace.conditionCount);
    if (what == 's') {
      return route.trace.statements[j];
    }
    if (what == 'k') {
      return route.trace.kinds[j];
    }
    if (what == 'h') {
      return route.trace.heldSides[j] ? 1 : 0;
    }
    return route.terms.sizeOf((int) route.trace.conditions[j]);
  }

  /** Returns the sign of the term of a condition. */
  public long conditionSign(int p, int i, int j)
      throws IndexOutOfBoundsException, IllegalStateException, NoSuchElementException {
    requireProgram(p);
    requireWhole(p);
    requireElement(i, surveys[p].pathsFound());
    route.follow(surveys[p], i);
    requireElement(j, route.trace.conditionCount);
    return route.terms.signs[(int) route.trace.conditions[j]];
  }

  /** Tells whether a condition holds for a row. */
  public boolean holds(int p, int i, int j, int row)
      throws IndexOutOfBoundsException, IllegalStateException, NoSuchElementException {
    requireWalk(p, row);
    requireElement(i, surveys[p].pathsFound());
    route.follow(surveys[p], i);
    requireElement(j, route.trace.conditionCount);
    route.terms.reckon(row);
    return route.isMet(j);
  }

  /** Returns the sign of the term of an output. */
  public long outputSign(int p, int i, int j)
      throws IndexOutOfBoundsException, IllegalStateException, NoSuchElementException {
    requireProgram(p);
    requireWhole(p);
    requireElement(i, surveys[p].pathsFound());
    route.follow(surveys[p], i);
    requireElement(j, route.trace.outCount);
    return route.terms.signs[(int) route.trace.outs[j]];
  }

  /** Returns the value of the term of an output for a row. */
  public long outputValue(int p, int i, int j, int row)
      throws IndexOutOfBoundsException, IllegalStateException, NoSuchElementException {
    requireWalk(p, row);
    requireElement(i, surveys[p].pathsFound());
    route.follow(surveys[p], i);
    requireElement(j, route.trace.outCount);
    route.terms.reckon(row);
    return route.terms.worths[(int) route.trace.outs[j]];
  }

  // ---- goals

  /** Returns how many goals rows that are let cover. */
  public int goals(int p) throws IndexOutOfBoundsException, IllegalStateException {
    requireProgram(p);
    requireWhole(p);
    Survey survey = surveys[p];
    return Long.bitCount(survey.doneByLet()) + Long.bitCount(survey.missedByLet());
  }

  /** Returns the least row that is let and covers a goal, -1 if there is none. */
  public int reaching(int p, int s, int side)
      throws IndexOutOfBoundsException, IllegalStateException {
    requireProgram(p);
    requireStatement(p, s);
    requireIndex(side == 0 || side == 1);
    requireWhole(p);
    return surveys[p].leastRowTo(s, side);
  }

  /** Keeps a row. Returns how many are kept then. */
  public int keep(int row) throws IndexOutOfBoundsException, IllegalStateException {
    requireRow(row);
    requireState(isKept(row) || keptCount < MOST_KEPT);
    keepRow(row);
    return keptCount;
  }

  /** Keeps no row any more. Returns how many were kept. */
  public int unkeep() {
    int had = keptCount;
    keptCount = 0;
    return had;
  }

  /** Returns a kept row, in the order in which they were kept. */
  public int kept(int i) throws IndexOutOfBoundsException {
    requireIndex(0 <= i && i < keptCount);
    return keptRows[i];
  }

  /** Returns how many goals kept rows cover, whether they are let or not. */
  public int covered(int p) throws IndexOutOfBoundsException, IllegalStateException {
    requireProgram(p);
    requireWhole(p);
    return Long.bitCount(doneByKept(p)) + Long.bitCount(missedByKept(p));
  }

  /** Keeps a suite of rows in place of those that are kept. Returns how many are kept then. */
  public int suite(int p) throws IndexOutOfBoundsException, IllegalStateException {
    requireProgram(p);
    requireWhole(p);
    Survey survey = surveys[p];
    long done = survey.doneByLet();
    long missed = survey.missedByLet();
    keptCount = 0;
    for (int n = 0; n < MOST_KEPT && (done | missed) != 0; n++) {
      int best = survey.rowToMost(done, missed);
      done &= ~survey.walkOf(best).done;
      missed &= ~survey.walkOf(best).missed;
      keepRow(best);
    }
    return keptCount;
  }

  /** Tries rows by chance, and keeps some. Returns how many were kept besides. */
  public int fuzz(int p, int rounds, int seed)
      throws IndexOutOfBoundsException, IllegalArgumentException, IllegalStateException {
    requireProgram(p);
    requireGood(1 <= rounds && rounds <= MOST_FUZZ);
    requireWhole(p);
    int had = keptCount;
    if (keptCount == 0) {
      keepRow(inputs.leastLet());
    }
    chance = seed;
    long done = doneByKept(p);
    long missed = missedByKept(p);
    for (int round = 0; round < rounds; round++) {
      int row = changedByChance(keptRows[drawBelow(keptCount)]);
      Trace walk = surveys[p].walkOf(row);
      boolean isNew = ((walk.done & ~done) | (walk.missed & ~missed)) != 0;
      if (isNew && inputs.lets(row) && keptCount < MOST_KEPT) {
        keepRow(row);
        done |= walk.done;
        missed |= walk.missed;
      }
    }
    return keptCount - had;
  }

  /** Makes a row smaller. Returns the row that it comes to. */
  public int shrink(int p, int row) throws IndexOutOfBoundsException, IllegalStateException {
    requireWalk(p, row);
    int now = row;
    for (int n = 0; n < MOST_ROWS; n++) {
      int next = smallerRow(p, now);
      if (next == now) {
        return now;
      }
      now = next;
    }
    return now;
  }

  /** Returns the least row that is let by which the two programs are unlike, or -1. */
  public int unlike() throws IllegalStateException {
    requireWhole(0);
    requireWhole(1);
    for (int row = 0; row < inputs.rowCount(); row++) {
      if (inputs.lets(row) && surveys[0].walkOf(row).isUnlike(surveys[1].walkOf(row))) {
        return row;
      }
    }
    return NONE;
  }

  // ---- the theorem

  /** Returns a number that depends on all that is told. */
  public long checksum() {
    long h = 0;
    for (int k = 0; k < INPUTS; k++) {
      h = 31 * h + inputs.widths[k];
      h = 31 * h + inputs.fixed[k];
    }
    h = 31 * h + madeCount;
    for (int x = 0; x < madeCount; x++) {
      h = 31 * h + made.signs[madeTerms[x]];
    }
    for (int p = 0; p < PROGRAMS; p++) {
      h = programs[p].mixedInto(h);
    }
    h = 31 * h + keptCount;
    for (int i = 0; i < keptCount; i++) {
      h = 31 * h + keptRows[i];
    }
    h = 31 * h + script.length;
    for (int i = 0; i < script.length; i++) {
      h = 31 * h + script.letters[i];
    }
    return h;
  }

  /** Tries the theorem, (1), (2) and (3), on a program and a row; true if the row is not let. */
  public boolean isTrue(int p, int row) throws IndexOutOfBoundsException, IllegalStateException {
    requireWalk(p, row);
    if (!inputs.lets(row)) {
      return true;
    }
    Survey survey = surveys[p];
    int found = survey.pathsFound();
    int own = survey.pathOf[row];
    for (int i = 0; i < found; i++) {
      route.follow(survey, i);
      route.terms.reckon(row);
      if (route.admits() != (i == own)) {
        return false;
      }
      if (i == own && !route.agreesWith(survey.walkOf(row))) {
        return false;
      }
    }
    return true;
  }

  /** Tries the theorem, (4), on a program. */
  public boolean goalsAreTrue(int p) throws IndexOutOfBoundsException, IllegalStateException {
    requireProgram(p);
    requireWhole(p);
    Survey survey = surveys[p];
    long done = survey.doneByLet();
    long missed = survey.missedByLet();
    for (int s = 0; s < programs[p].length; s++) {
      boolean isDone = (done & bit(s)) != 0;
      boolean isMissed = (missed & bit(s)) != 0;
      if (isDone != survey.leastRowTo(s, 1) >= 0 || isMissed != survey.leastRowTo(s, 0) >= 0) {
        return false;
      }
    }
    return survey.pathsFound() > 0 && survey.coverIsByPath();
  }

  // ---- what the calls above have in common

  private static void requireIndex(boolean isThere) {
    if (!isThere) {
      throw new IndexOutOfBoundsException("there is none with this number");
    }
  }

  private static void requireGood(boolean isGood) {
    if (!isGood) {
      throw new IllegalArgumentException("this cannot be asked");
    }
  }

  private static void requireState(boolean isReady) {
    if (!isReady) {
      throw new IllegalStateException("this cannot be done now");
    }
  }

  private static void requireElement(int i, int count) {
    if (i < 0 || i >= count) {
      throw new NoSuchElementException("there are fewer");
    }
  }

  private static void requireInput(int k) {
    requireIndex(0 <= k && k < INPUTS);
  }

  private static void requireProgram(int p) {
    requireIndex(0 <= p && p < PROGRAMS);
  }

  private void requireRow(int row) {
    requireIndex(0 <= row && row < inputs.rowCount());
  }

  private void requireTerm(int x) {
    requireIndex(0 <= x && x < madeCount);
  }

  private void requireStatement(int p, int s) {
    requireIndex(0 <= s && s < programs[p].length);
  }

  private void requireWhole(int p) {
    requireState(programs[p].faultAt() == NONE);
  }

  private void requireWalk(int p, int row) {
    requireProgram(p);
    requireRow(row);
    requireWhole(p);
  }

  private void forgetWalks(int p) {
    surveys[p].forgetAll();
    route.forgetPath();
  }

  /** What is let has changed, but a walk is that of a row, let or not. */
  private void forgetPaths() {
    for (int p = 0; p < PROGRAMS; p++) {
      surveys[p].forgetSorting();
    }
    route.forgetPath();
  }

  private int shelve(long term) {
    madeTerms[madeCount] = (int) term;
    madeSizes[madeCount] = made.count;
    madeCount++;
    return madeCount - 1;
  }

  private void dropTermsWith(int k) {
    for (int x = 0; x < madeCount; x++) {
      if (made.usesInput(madeTerms[x], k)) {
        madeCount = x;
        made.cutTo(x == 0 ? 0 : madeSizes[x - 1]);
        return;
      }
    }
  }

  private void dropLostRows() {
    int had = keptCount;
    keptCount = 0;
    for (int i = 0; i < had; i++) {
      if (keptRows[i] < inputs.rowCount()) {
        keptRows[keptCount] = keptRows[i];
        keptCount++;
      }
    }
  }

  private static int isTyped(char letter) {
    return letter != '#' && letter <= 255 ? 1 : 0;
  }

  private void typeOne(char letter) {
    if (isTyped(letter) == 1) {
      script.letters[script.length] = letter;
      script.length++;
    }
  }

  private boolean isKept(int row) {
    for (int i = 0; i < keptCount; i++) {
      if (keptRows[i] == row) {
        return true;
      }
    }
    return false;
  }

  private void keepRow(int row) {
    if (!isKept(row) && keptCount < MOST_KEPT) {
      keptRows[keptCount] = row;
      keptCount++;
    }
  }

  private long doneByKept(int p) {
    long all = 0;
    for (int i = 0; i < keptCount; i++) {
      all |= surveys[p].walkOf(keptRows[i]).done;
    }
    return all;
  }

  private long missedByKept(int p) {
    long all = 0;
    for (int i = 0; i < keptCount; i++) {
      all |= surveys[p].walkOf(keptRows[i]).missed;
    }
    return all;
  }

  private int drawBelow(int n) {
    chance = chance * 1103515245 + 12345;
    return n > 0 ? (chance >>> 16) % n : 0;
  }

  private int changedByChance(int row) {
    int how = drawBelow(4);
    if (how == 0) {
      int bits = inputs.allBits();
      return bits == 0 ? row : row ^ (1 << drawBelow(bits));
    }
    int k = drawBelow(INPUTS);
    if (how == 1) {
      int old = inputs.valueIn(row, k);
      return inputs.rowWith(row, k, old == inputs.greatestOf(k) ? 0 : old + 1);
    }
    if (how == 2) {
      return inputs.rowWith(row, k, 0);
    }
    int other = drawBelow(INPUTS);
    return inputs.rowWith(row, k, inputs.valueIn(row, other) & inputs.greatestOf(k));
  }

  /** The first smaller row that ends alike, or the row itself if there is none. */
  private int smallerRow(int p, int row) {
    Trace walk = surveys[p].walkOf(row);
    for (int k = 0; k < INPUTS; k++) {
      int old = inputs.valueIn(row, k);
      for (int n = 0; n < 3 && old > 0; n++) {
        int less = n == 0 ? 0 : n == 1 ? old / 2 : old - 1;
        int next = inputs.rowWith(row, k, less);
        if (inputs.lets(next) && surveys[p].walkOf(next).endsLike(walk)) {
          return next;
        }
      }
    }
    return row;
  }

  private static long bit(int s) {
    return 1L << s;
  }

  private static char kindOf(int letter, int which) {
    int i = LETTERS.indexOf((char) letter);
    if (i < 0) {
      return '_';
    }
    return which == 1 ? X_KINDS.charAt(i) : which == 2 ? Y_KINDS.charAt(i) : Z_KINDS.charAt(i);
  }

  private static boolean hasNumber(int letter, int which) {
    return kindOf(letter, which) != '_';
  }

  private static boolean isInRange(int letter, int which, int number) {
    char kind = kindOf(letter, which);
    return leastOfKind(kind) <= number && number <= greatestOfKind(kind);
  }

  private static int leastOfKind(char kind) {
    return kind == 'n' ? -32768 : 0;
  }

  private static int greatestOfKind(char kind) {
    if (kind == 'v') {
      return VARIABLES - 1;
    }
    if (kind == 'n') {
      return 32767;
    }
    if (kind == 'k') {
      return INPUTS - 1;
    }
    if (kind == 'r') {
      return RECORDS - 1;
    }
    return kind == 'd' ? FIELDS - 1 : 0;
  }

  private static long leastOfBits(int bits) {
    return bits == 16 ? LEAST_SHORT : LEAST_INT;
  }

  private static long greatestOfBits(int bits) {
    return bits == 16 ? GREATEST_SHORT : GREATEST_INT;
  }

  private static long narrowed(int how, int bits, long n) {
    if (how == WRAPPED) {
      return bits == 16 ? (short) n : (int) n;
    }
    long most = bits == 16 ? GREATEST_SHORT : GREATEST_INT;
    return Math.max(-most - 1, Math.min(most, n));
  }

  /** The exact value; what goes in has 32 digits at most but for = and <, so a long holds it. */
  private static long reckoned(int letter, long x, long y) {
    switch (letter) {
      case '+':
        return x + y;
      case '-':
        return x - y;
      case '*':
        return x * y;
      case '/':
        return y == 0 ? 0 : x / y;
      case '%':
        return y == 0 ? 0 : x % y;
      case '&':
        return x & y;
      case '|':
        return x | y;
      case '^':
        return x ^ y;
      case '=':
        return x == y ? 1 : 0;
      default:
        return x < y ? 1 : 0;
    }
  }

  /** The four inputs: how wide each one is, and where one is fixed. */
  private static final class Inputs {
    final int[] widths = {2, 2, 1, 1};
    final int[] fixed = {FREE, FREE, FREE, FREE};

    int allBits() {
      return widths[0] + widths[1] + widths[2] + widths[3];
    }

    int rowCount() {
      return 1 << allBits();
    }

    int shiftOf(int k) {
      int shift = 0;
      for (int i = 0; i < k; i++) {
        shift += widths[i];
      }
      return shift;
    }

    int greatestOf(int k) {
      return (1 << widths[k]) - 1;
    }

    int valueIn(int row, int k) {
      return (row >> shiftOf(k)) & greatestOf(k);
    }

    int rowWith(int row, int k, int value) {
      int shift = shiftOf(k);
      return (row & ~(greatestOf(k) << shift)) | (value << shift);
    }

    boolean lets(int row) {
      for (int k = 0; k < INPUTS; k++) {
        if (fixed[k] != FREE && fixed[k] != valueIn(row, k)) {
          return false;
        }
      }
      return true;
    }

    int letCount() {
      int let = 0;
      for (int row = 0; row < rowCount(); row++) {
        if (lets(row)) {
          let++;
        }
      }
      return let;
    }

    int leastLet() {
      for (int row = 0; row < rowCount(); row++) {
        if (lets(row)) {
          return row;
        }
      }
      return 0;
    }
  }

  /** What a walk reckons with: numbers, or terms in place of numbers, each one told by a long. */
  private abstract static class Algebra {
    abstract long ofNumber(long n);

    abstract long ofInput(int k);

    abstract long ofLetter(int letter, long x, long y);

    abstract long ofChoice(long c, long x, long y);

    abstract long ofNarrowed(int how, int bits, long x);

    /** That something is at least this and at most that, as the forks b and o ask. */
    abstract long within(long x, long least, long greatest);

    abstract boolean isNumber(long x);

    abstract long numberOf(long x);
  }

  /** Numbers told by themselves, with the inputs that a row gives. */
  private static final class Numbers extends Algebra {
    final Inputs inputs;
    int row;

    Numbers(Inputs inputs) {
      this.inputs = inputs;
    }

    long ofNumber(long n) {
      return n;
    }

    long ofInput(int k) {
      return inputs.valueIn(row, k);
    }

    long ofLetter(int letter, long x, long y) {
      return reckoned(letter, x, y);
    }

    long ofChoice(long c, long x, long y) {
      return c != 0 ? x : y;
    }

    long ofNarrowed(int how, int bits, long x) {
      return narrowed(how, bits, x);
    }

    long within(long x, long least, long greatest) {
      return least <= x && x <= greatest ? 1 : 0;
    }

    boolean isNumber(long x) {
      return true;
    }

    long numberOf(long x) {
      return x;
    }
  }

  /** Terms, each one once, told by their places; what a term is made of stands ahead of it. */
  private static final class Terms extends Algebra {
    final Inputs inputs;
    final int[] heads = new int[BUCKETS];
    int[] kinds = new int[FIRST_TERMS];
    int[] firsts = new int[FIRST_TERMS];
    int[] seconds = new int[FIRST_TERMS];
    int[] thirds = new int[FIRST_TERMS];
    int[] buckets = new int[FIRST_TERMS];
    int[] nexts = new int[FIRST_TERMS];
    long[] leasts = new long[FIRST_TERMS];
    long[] greatests = new long[FIRST_TERMS];
    long[] signs = new long[FIRST_TERMS];
    long[] worths = new long[FIRST_TERMS];
    int[] marks = new int[FIRST_TERMS];
    int count;

    Terms(Inputs inputs) {
      this.inputs = inputs;
      Arrays.fill(heads, NONE);
    }

    /** Doubles the arrays, if what is made next could be more than they have left. */
    void makeRoom() {
      int room = kinds.length;
      if (count + TERMS_A_TURN <= room || room >= MOST_TERMS) {
        return;
      }
      kinds = Arrays.copyOf(kinds, 2 * room);
      firsts = Arrays.copyOf(firsts, 2 * room);
      seconds = Arrays.copyOf(seconds, 2 * room);
      thirds = Arrays.copyOf(thirds, 2 * room);
      buckets = Arrays.copyOf(buckets, 2 * room);
      nexts = Arrays.copyOf(nexts, 2 * room);
      leasts = Arrays.copyOf(leasts, 2 * room);
      greatests = Arrays.copyOf(greatests, 2 * room);
      signs = Arrays.copyOf(signs, 2 * room);
      worths = Arrays.copyOf(worths, 2 * room);
      marks = Arrays.copyOf(marks, 2 * room);
    }

    /** Takes away the last terms; each one is the head of its bucket when it goes. */
    void cutTo(int size) {
      for (int t = count - 1; t >= size; t--) {
        heads[buckets[t]] = nexts[t];
      }
      count = Math.min(count, size);
    }

    boolean isNumber(long x) {
      return kinds[(int) x] == NUMBER;
    }

    long numberOf(long x) {
      return leasts[(int) x];
    }

    long ofNumber(long n) {
      return intern(NUMBER, 0, 0, 0, n, n);
    }

    /** In a walk an input that is fixed is a number. */
    long ofInput(int k) {
      return inputs.fixed[k] != FREE ? ofNumber(inputs.fixed[k]) : inputTerm(k);
    }

    long inputTerm(int k) {
      return intern(INPUT, k, 0, 0, 0, inputs.greatestOf(k));
    }

    /** The term itself or narrowed to 32 digits: only so it may be put into a letter's term. */
    long fitted(long x) {
      return ofNarrowed(WRAPPED, 32, x);
    }

    long ofNarrowed(int how, int bits, long term) {
      int x = (int) term;
      long least = leastOfBits(bits);
      long greatest = greatestOfBits(bits);
      if (least <= leasts[x] && greatests[x] <= greatest) {
        return x;
      }
      if (kinds[x] == NUMBER) {
        long n = narrowed(how, bits, leasts[x]);
        return intern(NUMBER, 0, 0, 0, n, n);
      }
      return intern(how, x, bits, 0, least, greatest);
    }

    long ofChoice(long condition, long one, long other) {
      int c = (int) condition;
      int x = (int) one;
      int y = (int) other;
      if (kinds[c] == NUMBER) {
        return leasts[c] != 0 ? x : y;
      }
      if (x == y || leasts[c] > 0 || greatests[c] < 0) {
        return x;
      }
      long least = Math.min(leasts[x], leasts[y]);
      long greatest = Math.max(greatests[x], greatests[y]);
      return intern(CHOICE, c, x, y, least, greatest);
    }

    long within(long x, long least, long greatest) {
      long above = ofLetter('<', ofNumber(least - 1), x);
      long below = ofLetter('<', x, ofNumber(greatest + 1));
      return ofLetter('&', above, below);
    }

    /** The two terms have reaches of 32 digits at most, but for = and <: walks narrow all. */
    long ofLetter(int letter, long one, long other) {
      int x = (int) one;
      int y = (int) other;
      if (kinds[x] == NUMBER && kinds[y] == NUMBER) {
        long n = reckoned(letter, leasts[x], leasts[y]);
        return intern(NUMBER, 0, 0, 0, n, n);
      }
      boolean compares = letter == '=' || letter == '<';
      int small = compares ? smallComparison(letter, x, y) : small(letter, x, y);
      if (small == TERM_0 || small == TERM_1) {
        long n = small == TERM_0 ? 0 : 1;
        return intern(NUMBER, 0, 0, 0, n, n);
      }
      if (small != NO_TERM) {
        return small;
      }
      return intern(letter, x, y, 0, leastOf(letter, x, y), greatestOf(letter, x, y));
    }

    private int smallComparison(int letter, int x, int y) {
      boolean isBelow = greatests[x] < leasts[y];
      if (letter == '=') {
        return x == y ? TERM_1 : isBelow || greatests[y] < leasts[x] ? TERM_0 : NO_TERM;
      }
      return x == y ? TERM_0 : isBelow ? TERM_1 : leasts[x] >= greatests[y] ? TERM_0 : NO_TERM;
    }

    /** The term that a letter's term of these two is made small to, if there is one. */
    private int small(int letter, int x, int y) {
      boolean isX0 = kinds[x] == NUMBER && leasts[x] == 0;
      boolean isY0 = kinds[y] == NUMBER && leasts[y] == 0;
      boolean isX1 = kinds[x] == NUMBER && leasts[x] == 1;
      boolean isY1 = kinds[y] == NUMBER && leasts[y] == 1;
      switch (letter) {
        case '+':
          return isX0 ? y : isY0 ? x : NO_TERM;
        case '-':
          return isY0 ? x : x == y ? TERM_0 : NO_TERM;
        case '*':
          return isX0 || isY0 ? TERM_0 : isX1 ? y : isY1 ? x : NO_TERM;
        case '/':
          return isX0 ? TERM_0 : isY1 ? x : NO_TERM;
        case '%':
          return isX0 || isY1 ? TERM_0 : NO_TERM;
        case '&':
          return isX0 || isY0 ? TERM_0 : x == y ? x : NO_TERM;
        case '|':
          return isX0 ? y : isY0 || x == y ? x : NO_TERM;
        default:
          return isX0 ? y : isY0 ? x : x == y ? TERM_0 : NO_TERM;
      }
    }

    private long leastOf(int letter, int x, int y) {
      boolean isXUp = leasts[x] >= 0;
      boolean isYUp = leasts[y] >= 0;
      long low = Math.min(leasts[x] * leasts[y], leasts[x] * greatests[y]);
      long lower = Math.min(greatests[x] * leasts[y], greatests[x] * greatests[y]);
      switch (letter) {
        case '+':
          return leasts[x] + leasts[y];
        case '-':
          return leasts[x] - greatests[y];
        case '*':
          return Math.min(low, lower);
        case '/':
          return isXUp && isYUp ? 0 : -Math.max(Math.abs(leasts[x]), Math.abs(greatests[x]));
        case '%':
          long amount = Math.max(Math.abs(leasts[y]), Math.abs(greatests[y]));
          return isXUp || amount == 0 ? 0 : 1 - amount;
        case '&':
          return isXUp || isYUp ? 0 : LEAST_INT;
        case '|':
        case '^':
          return isXUp && isYUp ? 0 : LEAST_INT;
        default:
          return 0;
      }
    }

    private long greatestOf(int letter, int x, int y) {
      boolean isXUp = leasts[x] >= 0;
      boolean isYUp = leasts[y] >= 0;
      long high = Math.max(leasts[x] * leasts[y], leasts[x] * greatests[y]);
      long higher = Math.max(greatests[x] * leasts[y], greatests[x] * greatests[y]);
      switch (letter) {
        case '+':
          return greatests[x] + greatests[y];
        case '-':
          return greatests[x] - leasts[y];
        case '*':
          return Math.max(high, higher);
        case '/':
          return isXUp && isYUp
              ? greatests[x]
              : Math.max(Math.abs(leasts[x]), Math.abs(greatests[x]));
        case '%':
          long amount = Math.max(Math.abs(leasts[y]), Math.abs(greatests[y]));
          long most = amount == 0 ? 0 : amount - 1;
          return isXUp ? Math.min(most, greatests[x]) : most;
        case '&':
          return isXUp && isYUp
              ? Math.min(greatests[x], greatests[y])
              : isXUp ? greatests[x] : isYUp ? greatests[y] : GREATEST_INT;
        case '|':
        case '^':
          long ones = 0;
          for (int k = 0; k < 31 && ones < Math.max(greatests[x], greatests[y]); k++) {
            ones = 2 * ones + 1;
          }
          return isXUp && isYUp ? ones : GREATEST_INT;
        default:
          return 1;
      }
    }

    /** The place of the term that is made so, a new one if there is none yet. */
    private int intern(int kind, int a, int b, int c, long least, long greatest) {
      int mixed = (((kind * 31 + a) * 31 + b) * 31 + c) * 31 + (int) least;
      int bucket = (mixed ^ (mixed >>> 10)) & (BUCKETS - 1);
      for (int t = heads[bucket]; t >= 0; t = nexts[t]) {
        boolean isAlike = kinds[t] == kind && firsts[t] == a && seconds[t] == b;
        if (isAlike && thirds[t] == c && leasts[t] == least) {
          return t;
        }
      }
      if (count >= kinds.length) {
        return 0;
      }
      int t = count;
      kinds[t] = kind;
      firsts[t] = a;
      seconds[t] = b;
      thirds[t] = c;
      leasts[t] = least;
      greatests[t] = greatest;
      buckets[t] = bucket;
      nexts[t] = heads[bucket];
      heads[bucket] = t;
      if (kind == NUMBER) {
        signs[t] = least * Q + kind;
      } else if (kind == INPUT) {
        signs[t] = a * Q + kind;
      } else if (kind == CHOICE) {
        signs[t] = ((signs[a] * Q + signs[b]) * Q + signs[c]) * Q + kind;
      } else if (kind == WRAPPED || kind == CUT) {
        signs[t] = (signs[a] * Q + b) * Q + kind;
      } else {
        signs[t] = ((kind * Q + signs[a]) * Q + signs[b]) * Q + LETTER;
      }
      count++;
      return t;
    }

    /** Reckons the worths of all terms for a row. */
    void reckon(int row) {
      for (int t = 0; t < count; t++) {
        int kind = kinds[t];
        if (kind == NUMBER) {
          worths[t] = leasts[t];
        } else if (kind == INPUT) {
          worths[t] = inputs.valueIn(row, firsts[t]);
        } else if (kind == CHOICE) {
          worths[t] = worths[firsts[t]] != 0 ? worths[seconds[t]] : worths[thirds[t]];
        } else if (kind == WRAPPED || kind == CUT) {
          worths[t] = narrowed(kind, seconds[t], worths[firsts[t]]);
        } else {
          worths[t] = reckoned(kind, worths[firsts[t]], worths[seconds[t]]);
        }
      }
    }

    /** Marks what a term has in it; its parts stand ahead of it, so one way down is enough. */
    private void markParts(int x) {
      for (int t = 0; t <= x; t++) {
        marks[t] = t == x ? 1 : 0;
      }
      for (int t = x; t >= 0; t--) {
        boolean hasParts = marks[t] == 1 && kinds[t] != NUMBER && kinds[t] != INPUT;
        if (hasParts) {
          marks[firsts[t]] = 1;
        }
        if (hasParts && kinds[t] != WRAPPED && kinds[t] != CUT) {
          marks[seconds[t]] = 1;
        }
        if (hasParts && kinds[t] == CHOICE) {
          marks[thirds[t]] = 1;
        }
      }
    }

    int sizeOf(int x) {
      markParts(x);
      int found = 0;
      for (int t = 0; t <= x; t++) {
        if (marks[t] == 1) {
          found++;
        }
      }
      return found;
    }

    boolean usesInput(int x, int k) {
      markParts(x);
      for (int t = 0; t <= x; t++) {
        if (marks[t] == 1 && kinds[t] == INPUT && firsts[t] == k) {
          return true;
        }
      }
      return false;
    }
  }

  /** A program: its statements, how it is walked, and how its blocks lie. */
  private static final class Program {
    final int[][] parts = new int[4][MOST_STATEMENTS];
    int length;
    char manner = 'w';
    int rowLength = 4;
    int stepLimit = 80;
    int roundLimit = 6;
    boolean merges;
    final int[] openers = new int[MOST_STATEMENTS];
    final int[] colons = new int[MOST_STATEMENTS];
    final int[] closers = new int[MOST_STATEMENTS];
    final int[] bodies = new int[FUNCTIONS];
    final int[] opened = new int[MOST_BLOCKS];
    final boolean[] isPlain = new boolean[MOST_STATEMENTS];
    final boolean[] isStep = new boolean[MOST_STATEMENTS];
    boolean isSurveyed;
    private int fault;

    void append(int letter, int x, int y, int z) {
      if (length < MOST_STATEMENTS) {
        parts[0][length] = letter;
        parts[1][length] = hasNumber(letter, 1) ? x : 0;
        parts[2][length] = hasNumber(letter, 2) ? y : 0;
        parts[3][length] = hasNumber(letter, 3) ? z : 0;
        length++;
        isSurveyed = false;
      }
    }

    void insertLike(int s, int from) {
      for (int i = 0; i < 4; i++) {
        int part = parts[i][from];
        System.arraycopy(parts[i], s, parts[i], s + 1, length - s);
        parts[i][s] = part;
      }
      length++;
      isSurveyed = false;
    }

    void remove(int s) {
      for (int i = 0; i < 4; i++) {
        System.arraycopy(parts[i], s + 1, parts[i], s, length - s - 1);
      }
      length--;
      isSurveyed = false;
    }

    void takeStatements(int[][] others, int count) {
      for (int i = 0; i < 4; i++) {
        System.arraycopy(others[i], 0, parts[i], 0, count);
      }
      length = count;
      isSurveyed = false;
    }

    void becomeLike(Program other) {
      takeStatements(other.parts, other.length);
      manner = other.manner;
      rowLength = other.rowLength;
      stepLimit = other.stepLimit;
      roundLimit = other.roundLimit;
      merges = other.merges;
    }

    /** -1 if the program is whole; the places of its blocks stand then. */
    int faultAt() {
      if (!isSurveyed) {
        findBodies();
        fault = findFault();
        if (fault == NONE) {
          findSteps();
        }
        isSurveyed = true;
      }
      return fault;
    }

    private void findBodies() {
      Arrays.fill(bodies, NONE);
      for (int s = length - 1; s >= 0; s--) {
        if (parts[0][s] == 'd') {
          bodies[parts[1][s]] = s;
        }
      }
    }

    private int findFault() {
      int open = 0;
      for (int s = 0; s < length; s++) {
        int letter = parts[0][s];
        int inner = open > 0 ? opened[open - 1] : NONE;
        if (letter == '?' || letter == 'w' || letter == 'd') {
          boolean isSecond = letter == 'd' && (open > 0 || bodies[parts[1][s]] != s);
          if (isSecond || open >= MOST_BLOCKS) {
            return s;
          }
          opened[open] = s;
          colons[s] = NONE;
          open++;
        } else if (letter == ':') {
          if (inner == NONE || parts[0][inner] != '?' || colons[inner] != NONE) {
            return s;
          }
          colons[inner] = s;
          openers[s] = inner;
        } else if (letter == '.') {
          if (inner == NONE) {
            return s;
          }
          closers[inner] = s;
          openers[s] = inner;
          open--;
        } else if (letter == 'x' && bodies[parts[2][s]] == NONE) {
          return s;
        }
      }
      return open > 0 ? length : NONE;
    }

    private void findSteps() {
      int plainEnd = NONE;
      for (int s = 0; s < length; s++) {
        int letter = parts[0][s];
        isPlain[s] = letter == '?' && manner != 't' && hasPlainInside(s);
        isStep[s] = letter != ':' && letter != '.' && letter != 'd' && s >= plainEnd;
        if (isPlain[s] && s >= plainEnd) {
          plainEnd = closers[s];
        }
      }
    }

    private boolean hasPlainInside(int opener) {
      for (int s = opener + 1; s < closers[opener]; s++) {
        if (PLAIN_LETTERS.indexOf((char) parts[0][s]) < 0) {
          return false;
        }
      }
      return true;
    }

    long mixedInto(long sum) {
      long h = 31 * sum + length;
      for (int s = 0; s < length; s++) {
        for (int i = 0; i < 4; i++) {
          h = 31 * h + parts[i][s];
        }
      }
      h = 31 * h + manner;
      h = 31 * h + rowLength;
      h = 31 * h + stepLimit;
      h = 31 * h + roundLimit;
      return 31 * h + (merges ? 1 : 0);
    }
  }

  /** What is typed, and how it is read and written. */
  private static final class Script {
    final int[] letters = new int[MOST_TYPED];
    int length;
    final int[][] parsed = new int[4][MOST_STATEMENTS];
    private int at;
    private final StringBuilder text = new StringBuilder();

    /** How many statements are typed, or -1 less the fault. */
    int parse() {
      at = 0;
      int count = 0;
      while (at < length) {
        if (count >= MOST_STATEMENTS || !readStatement(count)) {
          return -1 - at;
        }
        count++;
      }
      return count;
    }

    /** Goes on behind a statement, or to the first letter that no text can have here. */
    private boolean readStatement(int s) {
      int letter = letters[at];
      if (LETTERS.indexOf((char) letter) < 0) {
        return false;
      }
      at++;
      parsed[0][s] = letter;
      for (int which = 1; which <= 3; which++) {
        parsed[which][s] = 0;
        if (hasNumber(letter, which)) {
          if (which > 1 && !passes(',') || !readNumber(s, which, kindOf(letter, which))) {
            return false;
          }
        }
      }
      return passes(';');
    }

    private boolean passes(int letter) {
      if (at >= length || letters[at] != letter) {
        return false;
      }
      at++;
      return true;
    }

    /** A digit that would lead out of range or follow a nought is left, and no text goes on so. */
    private boolean readNumber(int s, int which, char kind) {
      boolean isBelow = leastOfKind(kind) < 0 && passes('-');
      int most = isBelow ? -leastOfKind(kind) : greatestOfKind(kind);
      int digits = 0;
      int number = 0;
      while (at < length && letters[at] >= '0' && letters[at] <= '9') {
        int next = 10 * number + letters[at] - '0';
        boolean isAfterNought = digits > 0 && number == 0;
        if (isAfterNought || next > most || isBelow && next == 0) {
          break;
        }
        number = next;
        digits++;
        at++;
      }
      parsed[which][s] = isBelow ? -number : number;
      return digits > 0;
    }

    /** A letter of the text of a program, -1 if there is none. */
    int letterOf(Program program, int i) {
      text.setLength(0);
      for (int s = 0; s < program.length; s++) {
        int letter = program.parts[0][s];
        text.append((char) letter);
        for (int which = 1; which <= 3; which++) {
          if (hasNumber(letter, which)) {
            if (which > 1) {
              text.append(',');
            }
            text.append(program.parts[which][s]);
          }
        }
        text.append(';');
      }
      return i < 0 || i >= text.length() ? NONE : text.charAt(i);
    }
  }

  /** What a walk leaves behind. */
  private static final class Trace {
    char endLetter;
    int endAt;
    int stepCount;
    int forkCount;
    int outCount;
    final long[] outs = new long[MOST_OUTPUTS];
    long done;
    long missed;
    int sideCount;
    final long[] sides = new long[MOST_FORKS / 64];
    int conditionCount;
    final int[] statements;
    final int[] kinds;
    final boolean[] heldSides;
    final long[] conditions;

    Trace(int room) {
      statements = new int[room];
      kinds = new int[room];
      heldSides = new boolean[room];
      conditions = new long[room];
    }

    void begin() {
      endLetter = 0;
      endAt = 0;
      stepCount = 0;
      forkCount = 0;
      outCount = 0;
      done = 0;
      missed = 0;
      sideCount = 0;
      Arrays.fill(sides, 0);
      conditionCount = 0;
    }

    boolean sideAt(int n) {
      return 0 <= n && n < sideCount && (sides[n >> 6] >> (n & 63) & 1) == 1;
    }

    void putSide(boolean side) {
      if (sideCount < MOST_FORKS) {
        if (side) {
          sides[sideCount >> 6] |= 1L << (sideCount & 63);
        }
        sideCount++;
      }
    }

    void putCondition(int s, int kind, boolean side, long term) {
      if (conditionCount < conditions.length) {
        statements[conditionCount] = s;
        kinds[conditionCount] = kind;
        heldSides[conditionCount] = side;
        conditions[conditionCount] = term;
        conditionCount++;
      }
    }

    void putOut(long value) {
      if (outCount < MOST_OUTPUTS) {
        outs[outCount] = value;
        outCount++;
      }
    }

    boolean covers(int s, int side) {
      return ((side == 1 ? done : missed) & bit(s)) != 0;
    }

    boolean endsLike(Trace other) {
      return endLetter == other.endLetter && endAt == other.endAt;
    }

    boolean isUnlike(Trace other) {
      if (endLetter != other.endLetter || outCount != other.outCount) {
        return true;
      }
      for (int i = 0; i < outCount; i++) {
        if (outs[i] != other.outs[i]) {
          return true;
        }
      }
      return false;
    }

    boolean hasSidesOf(Trace other) {
      if (sideCount != other.sideCount) {
        return false;
      }
      for (int i = 0; i < sides.length; i++) {
        if (sides[i] != other.sides[i]) {
          return false;
        }
      }
      return true;
    }
  }

  /** What a walk has in hand: variables of each call, records, the row, and sides to merge. */
  private static final class Memory {
    final long[][] variables = new long[MOST_CALLS + 1][VARIABLES];
    final int[][] rounds = new int[MOST_CALLS + 1][MOST_STATEMENTS];
    final int[] callers = new int[MOST_CALLS + 1];
    int depth;
    final long[] fields = new long[RECORDS * FIELDS];
    final long[] elements = new long[MOST_ELEMENTS];
    final int[] splitAt = new int[MOST_BLOCKS];
    final long[] splitBy = new long[MOST_BLOCKS];
    final long[][] before = new long[MOST_BLOCKS][VARIABLES + RECORDS * FIELDS];
    final long[][] firstSide = new long[MOST_BLOCKS][VARIABLES + RECORDS * FIELDS];
    int splits;

    void begin(long zero) {
      depth = 0;
      splits = 0;
      Arrays.fill(variables[0], zero);
      Arrays.fill(rounds[0], 0);
      Arrays.fill(fields, zero);
      Arrays.fill(elements, zero);
    }

    void enter(int caller, long zero, long first) {
      depth++;
      callers[depth] = caller;
      Arrays.fill(variables[depth], zero);
      Arrays.fill(rounds[depth], 0);
      variables[depth][0] = first;
    }

    int leave() {
      depth--;
      return callers[depth + 1];
    }

    boolean isSplitAt(int opener) {
      return splits > 0 && splitAt[splits - 1] == opener;
    }

    void split(int opener, long term) {
      splitAt[splits] = opener;
      splitBy[splits] = term;
      save(before[splits]);
      splits++;
    }

    void turnToOtherSide() {
      save(firstSide[splits - 1]);
      System.arraycopy(before[splits - 1], 0, variables[depth], 0, VARIABLES);
      System.arraycopy(before[splits - 1], VARIABLES, fields, 0, fields.length);
    }

    /** Each variable and field becomes the choice of its two sides. */
    void meet(Algebra algebra, boolean isTurned) {
      if (!isTurned) {
        turnToOtherSide();
      }
      splits--;
      long c = splitBy[splits];
      for (int i = 0; i < VARIABLES; i++) {
        variables[depth][i] = algebra.ofChoice(c, firstSide[splits][i], variables[depth][i]);
      }
      for (int i = 0; i < fields.length; i++) {
        fields[i] = algebra.ofChoice(c, firstSide[splits][VARIABLES + i], fields[i]);
      }
    }

    private void save(long[] into) {
      System.arraycopy(variables[depth], 0, into, 0, VARIABLES);
      System.arraycopy(fields, 0, into, VARIABLES, fields.length);
    }
  }

  /** Walks a program, statement by statement, with numbers or with terms alike. */
  private static final class Machine {
    private final Memory memory = new Memory();
    private Program program;
    private Algebra algebra;
    private Trace trace;
    private Trace guide;
    private int how;
    private int at;

    /** The guide tells the sides of forks whose terms are no numbers. */
    void begin(Program walked, Algebra with, Trace into, Trace guidedBy) {
      program = walked;
      algebra = with;
      trace = into;
      guide = guidedBy;
      how = program.manner == 's' ? CUT : WRAPPED;
      at = 0;
      trace.begin();
      memory.begin(algebra.ofNumber(0));
    }

    /** Whether a statement is come to that is to be done. */
    boolean arrives() {
      if (trace.endLetter != 0) {
        return false;
      }
      if (at >= program.length) {
        stop('e');
        return false;
      }
      if (program.isStep[at]) {
        if (trace.stepCount >= program.stepLimit) {
          stop('s');
          return false;
        }
        trace.stepCount++;
      }
      return true;
    }

    void perform() {
      int letter = program.parts[0][at];
      int x = program.parts[1][at];
      int y = program.parts[2][at];
      int z = program.parts[3][at];
      switch (letter) {
        case 'k': case 'i': case 'f': case '=': case '<':
          put(x, told(letter, y, z));
          break;
        case '/': case '%':
          if (fork('z', variable(z))) {
            become(x, told(letter, y, z));
          } else {
            stop('z');
          }
          break;
        case 'm': case '+': case '-': case '*': case '&': case '|': case '^':
          become(x, told(letter, y, z));
          break;
        case 'g':
          loadElement(x, variable(y));
          break;
        case 's':
          storeElement(variable(x), variable(y));
          break;
        case 'p':
          storeField(x * FIELDS + y, variable(z));
          break;
        case 'x':
          enterBody(y, variable(z));
          break;
        case 'v':
          long given = variable(x);
          trace.done |= bit(at);
          if (goesBack()) {
            become(program.parts[1][at], given);
          }
          break;
        case '.':
          if (program.parts[0][program.openers[at]] != 'd') {
            closeBlock();
          } else if (goesBack()) {
            become(program.parts[1][at], algebra.ofNumber(0));
          }
          break;
        default:
          performOther(letter, x, y);
          break;
      }
    }

    private void performOther(int letter, int x, int y) {
      switch (letter) {
        case 'r':
          System.arraycopy(memory.fields, y * FIELDS, memory.fields, x * FIELDS, FIELDS);
          pass();
          break;
        case 'a':
          if (fork('a', variable(x))) {
            pass();
          } else {
            stop('a');
          }
          break;
        case 'o':
          trace.putOut(variable(x));
          pass();
          break;
        case '?':
          branch(variable(x));
          break;
        case ':':
          leaveFirstSide();
          break;
        case 'w':
          loop(variable(x));
          break;
        default:
          at = program.closers[at] + 1;
          break;
      }
    }

    private long variable(int v) {
      return memory.variables[memory.depth][v];
    }

    /** What a variable is to become by a statement, not narrowed yet. */
    private long told(int letter, int y, int z) {
      switch (letter) {
        case 'k':
          return algebra.ofNumber(y);
        case 'i':
          return algebra.ofInput(y);
        case 'm':
          return variable(y);
        case 'f':
          return memory.fields[y * FIELDS + z];
        default:
          return algebra.ofLetter(letter, variable(y), variable(z));
      }
    }

    private void stop(char letter) {
      trace.endLetter = letter;
      trace.endAt = at;
    }

    /** The statement is done, and the one behind it is come to. */
    private void pass() {
      trace.done |= bit(at);
      at++;
    }

    /** Comes to a fork of the statement. Returns its side. */
    private boolean fork(char kind, long term) {
      boolean isKnown = algebra.isNumber(term);
      boolean side = isKnown ? algebra.numberOf(term) != 0 : guide.sideAt(trace.sideCount);
      trace.forkCount++;
      if (!side) {
        trace.missed |= bit(at);
      }
      if (!program.merges || !program.isPlain[at]) {
        trace.putSide(side);
        if (!isKnown) {
          trace.putCondition(at, kind, side, term);
        }
      }
      return side;
    }

    private void put(int v, long term) {
      memory.variables[memory.depth][v] = term;
      pass();
    }

    private void become(int v, long term) {
      int bits = v < FIRST_WIDE ? 16 : 32;
      if (program.manner == 't') {
        long fits = algebra.within(term, leastOfBits(bits), greatestOfBits(bits));
        if (!fork('o', fits)) {
          stop('o');
          return;
        }
      }
      put(v, algebra.ofNarrowed(how, bits, term));
    }

    private void storeField(int field, long term) {
      if (program.manner == 't' && !fork('o', algebra.within(term, LEAST_SHORT, GREATEST_SHORT))) {
        stop('o');
        return;
      }
      memory.fields[field] = algebra.ofNarrowed(how, 16, term);
      pass();
    }

    private void loadElement(int v, long place) {
      int last = program.rowLength - 1;
      if (!fork('b', algebra.within(place, 0, last))) {
        stop('b');
        return;
      }
      long element = memory.elements[last];
      for (int k = last - 1; k >= 0; k--) {
        long isHere = algebra.ofLetter('=', place, algebra.ofNumber(k));
        element = algebra.ofChoice(isHere, memory.elements[k], element);
      }
      put(v, element);
    }

    private void storeElement(long place, long term) {
      int last = program.rowLength - 1;
      if (!fork('b', algebra.within(place, 0, last))) {
        stop('b');
        return;
      }
      if (program.manner == 't' && !fork('o', algebra.within(term, LEAST_SHORT, GREATEST_SHORT))) {
        stop('o');
        return;
      }
      long element = algebra.ofNarrowed(how, 16, term);
      for (int k = 0; k <= last; k++) {
        long isHere = algebra.ofLetter('=', place, algebra.ofNumber(k));
        memory.elements[k] = algebra.ofChoice(isHere, element, memory.elements[k]);
      }
      pass();
    }

    /** With terms both sides of a plain block are walked, if they are to merge. */
    private void branch(long condition) {
      boolean isEitherWay = program.merges && program.isPlain[at] && !algebra.isNumber(condition);
      if (isEitherWay) {
        memory.split(at, condition);
        at++;
      } else if (fork('?', condition)) {
        pass();
      } else {
        int colon = program.colons[at];
        at = (colon != NONE ? colon : program.closers[at]) + 1;
      }
    }

    private void leaveFirstSide() {
      int opener = program.openers[at];
      if (memory.isSplitAt(opener)) {
        memory.turnToOtherSide();
        at++;
      } else {
        at = program.closers[opener] + 1;
      }
    }

    private void closeBlock() {
      int opener = program.openers[at];
      if (program.parts[0][opener] == 'w') {
        at = opener;
        return;
      }
      if (memory.isSplitAt(opener)) {
        memory.meet(algebra, program.colons[opener] != NONE);
      }
      at++;
    }

    /** The rounds go back to 0 when a w is left: they count since it was come to from ahead. */
    private void loop(long condition) {
      int[] rounds = memory.rounds[memory.depth];
      if (!fork('w', condition)) {
        rounds[at] = 0;
        at = program.closers[at] + 1;
      } else if (rounds[at] >= program.roundLimit) {
        trace.done |= bit(at);
        stop('l');
      } else {
        rounds[at]++;
        pass();
      }
    }

    private void enterBody(int function, long term) {
      if (memory.depth >= MOST_CALLS) {
        stop('d');
        return;
      }
      if (program.manner == 't' && !fork('o', algebra.within(term, LEAST_SHORT, GREATEST_SHORT))) {
        stop('o');
        return;
      }
      trace.done |= bit(at);
      memory.enter(at, algebra.ofNumber(0), algebra.ofNarrowed(how, 16, term));
      at = program.bodies[function] + 1;
    }

    /** Goes back to the x of a call, if there is one; outside of all calls the walk ends. */
    private boolean goesBack() {
      if (memory.depth == 0) {
        stop('e');
        return false;
      }
      at = memory.leave();
      return true;
    }
  }

  /** The walks of all rows by a program, and the paths that they take; each one is walked once. */
  private static final class Survey {
    final Program program;
    final int[] pathOf = new int[MOST_ROWS];
    final int[] leastRows = new int[MOST_ROWS];
    final int[] takers = new int[MOST_ROWS];
    private final Inputs inputs;
    private final Machine machine;
    private final Numbers numbers;
    private final Trace[] traces = new Trace[MOST_ROWS];
    private final boolean[] isWalked = new boolean[MOST_ROWS];
    private boolean isSorted;
    private int pathCount;

    Survey(Program program, Inputs inputs, Machine machine) {
      this.program = program;
      this.inputs = inputs;
      this.machine = machine;
      numbers = new Numbers(inputs);
      for (int row = 0; row < MOST_ROWS; row++) {
        traces[row] = new Trace(0);
      }
    }

    void forgetAll() {
      for (int row = 0; row < MOST_ROWS; row++) {
        isWalked[row] = false;
      }
      isSorted = false;
    }

    void forgetSorting() {
      isSorted = false;
    }

    Trace walkOf(int row) {
      Trace trace = traces[row];
      if (!isWalked[row]) {
        isWalked[row] = true;
        numbers.row = row;
        machine.begin(program, numbers, trace, trace);
        for (int turn = 0; turn < MOST_TURNS && machine.arrives(); turn++) {
          machine.perform();
        }
      }
      return trace;
    }

    /** How many paths there are, each with its least row and how many rows take it. */
    int pathsFound() {
      if (isSorted) {
        return pathCount;
      }
      isSorted = true;
      pathCount = 0;
      for (int row = 0; row < inputs.rowCount(); row++) {
        pathOf[row] = NONE;
        if (inputs.lets(row)) {
          int i = pathLike(walkOf(row));
          if (i == pathCount) {
            leastRows[i] = row;
            takers[i] = 0;
            pathCount++;
          }
          takers[i]++;
          pathOf[row] = i;
        }
      }
      return pathCount;
    }

    private int pathLike(Trace walk) {
      for (int i = 0; i < pathCount; i++) {
        if (traces[leastRows[i]].hasSidesOf(walk)) {
          return i;
        }
      }
      return pathCount;
    }

    long doneByLet() {
      long all = 0;
      for (int row = 0; row < inputs.rowCount(); row++) {
        if (inputs.lets(row)) {
          all |= walkOf(row).done;
        }
      }
      return all;
    }

    long missedByLet() {
      long all = 0;
      for (int row = 0; row < inputs.rowCount(); row++) {
        if (inputs.lets(row)) {
          all |= walkOf(row).missed;
        }
      }
      return all;
    }

    int leastRowTo(int s, int side) {
      for (int row = 0; row < inputs.rowCount(); row++) {
        if (inputs.lets(row) && walkOf(row).covers(s, side)) {
          return row;
        }
      }
      return NONE;
    }

    /** The least row that is let of those that cover the most of these goals. */
    int rowToMost(long done, long missed) {
      int best = 0;
      int most = NONE;
      for (int row = 0; row < inputs.rowCount(); row++) {
        if (inputs.lets(row)) {
          Trace walk = walkOf(row);
          int found = Long.bitCount(walk.done & done) + Long.bitCount(walk.missed & missed);
          if (found > most) {
            most = found;
            best = row;
          }
        }
      }
      return best;
    }

    /** Whether rows of one path cover the same goals, but those of plain blocks that merge. */
    boolean coverIsByPath() {
      long told = 0;
      for (int s = 0; s < program.length; s++) {
        if (!program.merges || program.isStep[s] && !program.isPlain[s]) {
          told |= bit(s);
        }
      }
      for (int row = 0; row < inputs.rowCount(); row++) {
        if (pathOf[row] != NONE) {
          Trace walk = walkOf(row);
          Trace least = walkOf(leastRows[pathOf[row]]);
          if (((walk.done ^ least.done | walk.missed ^ least.missed) & told) != 0) {
            return false;
          }
        }
      }
      return true;
    }
  }

  /** One path walked with terms, that of the last call that asked for one. */
  private static final class Route {
    final Terms terms;
    final Trace trace = new Trace(MOST_FORKS);
    private final Machine machine;
    private Survey followed;
    private int path = NONE;

    Route(Inputs inputs, Machine machine) {
      this.machine = machine;
      terms = new Terms(inputs);
    }

    void forgetPath() {
      path = NONE;
    }

    void follow(Survey survey, int i) {
      if (path == i && followed == survey) {
        return;
      }
      followed = survey;
      path = i;
      terms.cutTo(0);
      machine.begin(survey.program, terms, trace, survey.walkOf(survey.leastRows[i]));
      for (int turn = 0; turn < MOST_TURNS && machine.arrives(); turn++) {
        terms.makeRoom();
        machine.perform();
      }
    }

    /** Whether a condition holds for the row for which the terms are reckoned. */
    boolean isMet(int j) {
      return (terms.worths[(int) trace.conditions[j]] != 0) == trace.heldSides[j];
    }

    /** Whether all conditions hold for the row for which the terms are reckoned. */
    boolean admits() {
      for (int j = 0; j < trace.conditionCount; j++) {
        if (!isMet(j)) {
          return false;
        }
      }
      return true;
    }

    /** Whether the path ends like the walk, with its outputs for the row that is reckoned. */
    boolean agreesWith(Trace walk) {
      if (!trace.endsLike(walk) || trace.outCount != walk.outCount) {
        return false;
      }
      for (int i = 0; i < trace.outCount; i++) {
        if (terms.worths[(int) trace.outs[i]] != walk.outs[i]) {
          return false;
        }
      }
      return true;
    }
  }
}
