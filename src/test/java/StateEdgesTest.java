import java.util.ArrayList;
import java.util.List;

/**
 * Promises 37 to 40 at their edges: what place(), finds(), status() and digest() answer at first,
 * behind calls that are done, behind refused ones, and where numbers are great or wrap around.
 */
public final class StateEdgesTest {
  private static final int MAX = Integer.MAX_VALUE;
  private static final int MIN = Integer.MIN_VALUE;
  /** All that set STATUS, each once done and once refused, for an object as Twins makes them. */
  private static final String[] DONE = {"feed 0 0 0 0 0", "end 3", "table 0 6 0", "join 0 0", "drop 0",
    "rule 0 0 2", "condition 0 0 0", "indicator 0 0", "undo", "text", "measure 1 1 1", "set 0", "head 0", "length 0", "cell 0 0",
    "page 0 0 0", "cut 0 0", "lose 0", "copyRow 0 0 0 0 0", "copyLines 0 0 0", "emboss 0 0",
    "read 0 0 0", "letter 0", "failed 0 0", "readings 0 0 1", "reading 0 0", "judge 0", "parts 0 0 0",
    "unreadable 0 1 6", "saved 0 0"};
  private static final String[] REFUSED = {"end -1:5", "table 9 6 0:6", "join 11 0:3", "drop 11:3",
    "rule 0 0 -1:5", "condition 0 9 0:2", "indicator 0 9:6", "measure 0 1 1:6", "set 11:3", "head 7:3",
    "length 9:2", "cell 1 0:1", "page 9 0 0:2", "cut 0 201:6", "lose 9:2", "copyRow 0 0 1 0 0:1",
    "copyLines 0 0 11:6", "emboss 0 -1:5", "read 0 1 1:1", "letter 4:2", "failed 8 0:6",
    "readings 0 4 1:6", "reading 2 0:2", "judge 4:4", "parts 0 9 0:2", "unreadable 0 1 5:8",
    "saved 11 0:3", "rule 5 0 1:4", "indicator 3 0:4", "rule 0 0 9:6"};
  private static final String[] QUESTIONS = {"lines", "pages", "copied", "closed", "more", "place",
    "finds 0", "finds 4", "finds -1", "finds MAX", "finds MIN", "status", "digest"};

  private final Check c = new Check();

  public static void main(String[] args) {
    StateEdgesTest test = new StateEdgesTest();
    test.statusAndPlaceGo();
    test.statusAndPlaceStay();
    test.atFirst();
    test.placesInText();
    test.placesInHead();
    test.placesOfCells();
    test.findsOfOthers();
    test.findsOfRefused();
    test.findsOfDeepBases();
    test.digestOfNew();
    test.digestOfEach();
    test.digestOfMany();
    test.c.end("StateEdgesTest");
  }

  private static int over(List<Integer> all) {
    int d = 17;
    for (int x : all) {
      d = d * 31 + x;
    }
    return d;
  }

  /** An object in full use whose latest call was refused with a place. */
  private DotPress withPlace(String call, int status, int place) {
    DotPress x = Twins.inUse();
    Calls.say(x, call);
    c.due("status() behind " + call, x.status(), status);
    c.due("place() behind " + call, x.place(), place);
    return x;
  }

  // ---- promises 37 and 39

  private void statusAndPlaceGo() {
    c.promise(37, "of the latest call that sets STATUS");
    String[] ahead = {"set 4", "read 4 2 1"};
    int[] status = {7, 9};
    int[] place = {1, 2000};
    for (int i = 0; i < 2; i++) {
      for (String call : DONE) {
        DotPress x = withPlace(ahead[i], status[i], place[i]);
        int got = Calls.say(x, call);
        // behind 9 READ is empty
        boolean isDone = i == 0 || !call.startsWith("letter");
        c.due("STATUS behind " + call, x.status(), isDone ? 0 : 2);
        c.due("place() behind " + call, x.place(), -1);
        c.due(call + " is done", got != -1 ? 1 : 0, isDone ? 1 : 0);
      }
      for (String row : REFUSED) {
        String call = row.substring(0, row.indexOf(':'));
        DotPress x = withPlace(ahead[i], status[i], place[i]);
        c.due(call, Calls.say(x, call), -1);
        c.due("STATUS behind " + call, x.status(), Integer.parseInt(row.substring(row.indexOf(':') + 1)));
        c.due("place() behind " + call, x.place(), -1);
      }
    }
  }

  private void statusAndPlaceStay() {
    c.promise(39, "questions without a number behind them leave STATUS as it is");
    for (String call : QUESTIONS) {
      DotPress x = withPlace("set 4", 7, 1);
      Calls.say(x, call);
      c.due("STATUS behind " + call, x.status(), 7);
      c.due("place() behind " + call, x.place(), 1);
      for (String row : REFUSED) {
        Calls.say(x, row.substring(0, row.indexOf(':')));
        int status = x.status();
        Calls.say(x, call);
        c.due("STATUS behind " + call, x.status(), status);
        c.due("place() behind " + call, x.place(), -1);
      }
      x.end(0);
      Calls.say(x, call);
      c.due("STATUS 0 behind " + call, x.status(), 0);
    }
  }

  private void atFirst() {
    c.promise(39, "0 at first");
    for (String call : QUESTIONS) {
      DotPress x = new DotPress();
      int got = Calls.say(x, call);
      c.due("status() behind " + call, x.status(), 0);
      c.due("place() behind " + call, x.place(), -1);
      if (!call.equals("digest")) {
        c.due(call, got, call.equals("place") ? -1 : 0);
      }
    }
  }

  private void placesInText() {
    c.promise(37, "the byte of TEXT");
    for (int place : new int[] {0, 1, 9, 10, 11, 498, 499}) {
      DotPress x = new DotPress();
      Check.plain(x, "a");
      String ahead = "a ".repeat(250).substring(0, place);
      Check.text(x, ahead + "x" + "x".repeat(499 - place));
      c.due("set()", x.set(0), -1);
      c.due("status()", x.status(), 7);
      c.due("place()", x.place(), place);
      x.status();
      c.due("asked again", x.place(), place);
      c.due("saved()", x.saved(0, 0), 0);
      c.due("place()", x.place(), place);
      x.text();
      c.due("behind text()", x.place(), -1);
    }
  }

  private void placesInHead() {
    c.promise(37, "the byte of the TAPE");
    for (int place : new int[] {0, 1, 38, 39}) {
      DotPress x = new DotPress();
      Check.plain(x, "a");
      Check.text(x, "xxx");
      Check.head(x, 0, "a".repeat(place) + "x" + "x".repeat(39 - place));
      c.due("status()", x.status(), 7);
      c.due("place()", x.place(), place);
      c.due("a refused one", x.head(1), -1);
      c.due("place()", x.place(), -1);
    }
  }

  private void placesOfCells() {
    c.promise(37, "the LINE times 1000 and the CELL");
    DotPress x = new DotPress();
    Check.plain(x, "ab");
    x.table(0, 8, 0);
    Check.rule(x, 1, 0, "a", 1);
    Check.text(x, "ba\n\n" + "a".repeat(199) + "b");
    x.set(0);
    x.read(1, 0, 3);
    c.due("the first of all", x.place(), 0);
    x.read(1, 1, 2);
    c.due("the last of a full LINE", x.place(), 2199);
    x.read(1, 1, 1);
    c.due("none", x.place(), -1);
    x.read(1, 2, 1);
    c.due("alone", x.place(), 2199);
    x.read(1, 3, 1);
    c.due("refused with 2", x.place(), -1);
  }

  // ---- promise 38

  private void finds(DotPress x, String what, int... due) {
    for (int k = 0; k < 5; k++) {
      c.due(what + ": finds(" + k + ")", x.finds(k), due[k]);
    }
  }

  private void findsOfOthers() {
    c.promise(38, "0 for others");
    DotPress x = new DotPress();
    Check.plain(x, "a");
    Check.text(x, "a");
    x.set(0);
    x.set(x.join(0, 0));
    for (int k : new int[] {-1, 5, 6, MAX, MIN}) {
      c.due("finds(" + k + ")", x.finds(k), 0);
    }
    finds(x, "a Joined runs those of its parts", 2, 0, 0, 0, 0);
  }

  private void findsOfRefused() {
    c.promise(38, "of refused calls");
    DotPress x = new DotPress();
    Check.plain(x, "a");
    x.table(1, 8, 0);
    Check.text(x, "aax");
    x.set(0);
    finds(x, "set(): UNKNOWN", 3, 0, 0, 0, 0);
    x.set(2);
    x.set(-1);
    finds(x, "set(): no TABLE", 3, 0, 0, 0, 0);
    Check.head(x, 0, "x");
    finds(x, "head(): UNKNOWN", 4, 0, 0, 0, 0);
    Check.head(x, 2, "a");
    Check.head(x, 0, "a~");
    Check.head(x, 0, "a".repeat(41));
    finds(x, "head(): the TAPE, no TABLE", 4, 0, 0, 0, 0);
    x.saved(0, 2);
    x.saved(2, 0);
    finds(x, "saved(): no TABLE", 4, 0, 0, 0, 0);
    x.saved(0, 1);
    finds(x, "saved(): UNKNOWN by a", 7, 0, 0, 0, 0);
    x.saved(1, 0);
    finds(x, "saved(): UNKNOWN by a, a Contracted", 13, 3, 0, 0, 0);
    x.unreadable(0, 1, 1);
    finds(x, "unreadable(): SPENT", 14, 3, 0, 0, 0);
    x.unreadable(0, 0, 1);
    x.unreadable(2, 1, 1);
    finds(x, "unreadable(): n, no TABLE", 14, 3, 0, 0, 0);
    x.drop(0);
    x.set(1);
    x.head(1);
    x.saved(1, 1);
    x.unreadable(1, 1, 1);
    finds(x, "what it is under is dropped", 14, 3, 0, 0, 0);
    x.undo();
    Check.text(x, "a");
    x.set(0);
    x.read(0, 0, 1);
    x.readings(0, 0, 1);
    x.judge(0);
    x.parts(0, 0, 0);
    finds(x, "reading runs none", 15, 3, 0, 0, 0);
    x.text();
    x.set(0);
    x.head(0);
    finds(x, "no WORDS", 15, 3, 0, 0, 0);
  }

  private void findsOfDeepBases() {
    c.promise(38, "of 30 TABLES");
    DotPress x = new DotPress();
    Check.plain(x, "a");
    for (int i = 1; i < 30; i++) {
      x.table(3, 8, i - 1);
    }
    Check.text(x, "aA");
    c.done(x, "set()", x.set(29), 1);
    // each Short runs its own and a Contracted, this a Plain; at the end is one Plain
    finds(x, "Short under Short", 60, 58, 0, 58, 0);
    DotPress y = new DotPress();
    Check.plain(y, "a");
    for (int i = 1; i < 30; i++) {
      y.table(2, 8, i - 1);
    }
    Check.rule(y, 29, 0, "1", 9);
    Check.text(y, "a1");
    c.done(y, "set()", y.set(29), 1);
    finds(y, "Numeric under Numeric", 2, 0, 30, 0, 0);
    Check.text(y, "aB");
    Check.indicator(y, 29, 0, 9);
    y.set(29);
    finds(y, "B with a CAPITAL, twice", 5, 0, 117, 0, 0);
  }

  // ---- promise 40

  private void digestOfNew() {
    c.promise(40, "of a new object");
    DotPress x = new DotPress();
    c.due("digest()", x.digest(), over(List.of(0, 0, 0, 0, 0, 0, 0, 0, 0)));
    x.emboss(0, 1);
    c.due("closed()", x.digest(), over(List.of(0, 0, 0, 0, 0, 0, 0, 0, 1)));
    x.table(0, 8, 0);
    x.set(0);
    x.read(0, 0, 0);
    c.due("LINES and READ are empty", x.digest(), over(List.of(0, 0, 0, 0, 0, 0, 0, 0, 1)));
    Check.text(x, "\n");
    x.set(0);
    c.due("a LINE without CELLS", x.digest(), over(List.of(1, 0, 0, 0, 0, 0, 0, 0, 0, 1)));
    x.lose(0);
    c.due("a lacking LINE", x.digest(), over(List.of(1, -1, 0, 0, 0, 0, 0, 0, 0, 1)));
  }

  private void digestOfEach() {
    c.promise(40, "each part of it");
    DotPress x = new DotPress();
    Check.plain(x, "a");
    x.table(1, 8, 0);
    x.table(2, 8, 0);
    x.table(3, 8, 0);
    x.table(4, 8, 0);
    Check.rule(x, 4, 0, "a", 255);
    Check.head(x, 0, "a");
    c.due("finds(0)", x.digest(), over(List.of(0, 0, 1, 0, 0, 0, 0, 0, 0)));
    Check.head(x, 1, "a");
    c.due("finds(1)", x.digest(), over(List.of(0, 0, 3, 1, 0, 0, 0, 0, 0)));
    Check.head(x, 2, "a");
    c.due("finds(2)", x.digest(), over(List.of(0, 0, 4, 1, 1, 0, 0, 0, 0)));
    Check.head(x, 3, "a");
    c.due("finds(3)", x.digest(), over(List.of(0, 0, 6, 2, 1, 1, 0, 0, 0)));
    Check.head(x, 4, "a");
    c.due("finds(4)", x.digest(), over(List.of(0, 0, 6, 2, 1, 1, 1, 0, 0)));
    Check.text(x, "a\na");
    x.set(4);
    c.due("LINES", x.digest(), over(List.of(2, 1, 255, 1, 255, 0, 6, 2, 1, 1, 3, 0, 0)));
    x.copyLines(0, 1, 1);
    c.due("copied()", x.digest(), over(List.of(2, 1, 255, 1, 255, 0, 6, 2, 1, 1, 3, 1, 0)));
    x.read(4, 0, 2);
    c.due("READ", x.digest(), over(List.of(2, 1, 255, 1, 255, 3, 97, 32, 97, 6, 2, 1, 1, 3, 1, 0)));
    x.cut(1, 2);
    c.due("a BLANK", x.digest(), over(List.of(2, 1, 255, 2, 255, 0, 3, 97, 32, 97, 6, 2, 1, 1, 3, 1, 0)));
    x.read(0, 0, 1);
    c.due("WRONG: READ is empty", x.digest(), over(List.of(2, 1, 255, 2, 255, 0, 0, 6, 2, 1, 1, 3, 1, 0)));
    x.measure(9, 9, 9);
    x.failed(3, true);
    x.readings(4, 0, 1);
    x.text();
    x.table(0, 6, 0);
    x.feed(1, 2, 3, 4, 5);
    c.due("others are not in it", x.digest(), over(List.of(2, 1, 255, 2, 255, 0, 0, 6, 2, 1, 1, 3, 1, 0)));
  }

  private void digestOfMany() {
    c.promise(40, "wrapping");
    DotPress x = new DotPress();
    Check.plain(x, "abc");
    Check.text(x, "a".repeat(200) + "\n".repeat(100) + "b\n".repeat(99) + "c");
    x.measure(5, 5, 5);
    c.done(x, "200 LINES", x.set(0), 200);
    x.copyLines(0, 190, 10);
    x.read(0, 0, 1);
    for (int l = 1; l <= 5; l++) {
      x.lose(l);
    }
    List<Integer> all = new ArrayList<>(List.of(200));
    for (int l = 0; l < 200; l++) {
      // LINES 191 to 199 were made of 1 to 9, which have no CELLS
      int size = l == 0 || l == 190 ? 200 : l >= 1 && l <= 5 ? -1 : l < 100 || l > 190 ? 0 : 1;
      all.add(size);
      for (int i = 0; i < size; i++) {
        all.add(size == 200 ? 1 : 2);
      }
    }
    all.add(200);
    for (int i = 0; i < 200; i++) {
      all.add((int) 'a');
    }
    all.addAll(List.of(200 + 99 + 1, 0, 0, 0, 0, 10, 0));
    c.due("digest()", x.digest(), over(all));
    c.due("it changes nothing", x.digest(), over(all));
  }
}
