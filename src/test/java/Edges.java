import java.util.ArrayList;
import java.util.LinkedHashSet;
import java.util.List;
import java.util.Set;

/** Tests of sentences: each one is told by how it begins, and what follows is asked of it. */
abstract class Edges extends Due {
  static final Document DOCUMENT = Document.read();
  private static final Set<String> TOLD = new LinkedHashSet<>();
  private static int askedBefore;

  /** What follows is the test of this sentence of the parts. */
  static void says(String start) {
    says(0, start);
  }

  /** What follows is the test of this sentence of a promise. */
  static void says(int promise, String start) {
    endSentence();
    claim(promise, start);
    now = (promise == 0 ? "" : promise + ": ") + '"' + start + "\": ";
    askedBefore = asked;
  }

  /** The head of a part tells nothing that could be asked. */
  static void isHeading(String start) {
    claim(0, start);
  }

  private static void claim(int promise, String start) {
    List<String> found = new ArrayList<>();
    for (String sentence : DOCUMENT.sentences.get(promise)) {
      if (sentence.startsWith(start)) {
        found.add(sentence);
      }
    }
    boolean isNew = found.size() == 1 && TOLD.add(promise + found.get(0));
    if (!isNew) {
      fail(promise + ": " + found.size() + " sentences begin so, or it is told twice: " + start);
    }
  }

  private static void endSentence() {
    if (!now.isEmpty() && asked == askedBefore) {
      fail("nothing is asked of " + now);
    }
    now = "";
  }

  /** Each sentence of the document must have had its test by now. */
  static void allIsTold() {
    endSentence();
    DOCUMENT.sentences.forEach((promise, sentences) -> {
      for (String sentence : sentences) {
        if (!TOLD.contains(promise + sentence)) {
          fail(promise + ": no test of " + sentence);
        }
      }
    });
  }

  private static void fail(String what) {
    wrong++;
    System.out.println(what);
  }

  // ---- terms with a reach

  /** A term that is no number, with just this reach; the input has the width 1, or 0 for one. */
  static int span(Pathwright x, int k, long least, long greatest) {
    int term = x.input(k);
    if (least == MIN && greatest == MAX) {
      int wide = x.make('*', x.make('*', term, x.number(MAX)), x.number(2));
      return x.narrow('w', 32, wide);
    }
    if (greatest - least > 1) {
      term = x.make('*', term, x.number(Math.toIntExact(greatest - least)));
    }
    if (least == MIN - 1L || greatest == MAX + 1L) {
      // Two terms within 32 digits, the sum of which is not.
      int one = least < 0 ? -1 : 1;
      return x.make('+', x.make('+', term, x.number(Math.toIntExact(least - one))), x.number(one));
    }
    return least == 0 ? term : x.make('+', term, x.number(Math.toIntExact(least)));
  }

  /** A number that may have more than 32 digits. */
  static int great(Pathwright x, long n) {
    if (n == (int) n) {
      return x.number((int) n);
    }
    return x.make('+', x.number(Math.toIntExact(n / 2)), x.number(Math.toIntExact(n - n / 2)));
  }

  static String reachOf(Pathwright x, int term) {
    return x.reach(term, 'l') + " to " + x.reach(term, 'g');
  }
}
