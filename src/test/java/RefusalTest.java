/**
 * The sentences of 4 STATUS that touch each refused call: it answers -1 and changes nothing but
 * STATUS, place() and finds(); of several reasons the one that stands first counts; the TAPE is
 * empty behind each call that takes it, and stays behind others.
 */
public final class RefusalTest {
  private static final Twins.Work NOTHING = x -> { };
  private static final Twins.Work EMPTY_TAPE = x -> x.end(0);

  private final Check c = new Check();

  public static void main(String[] args) {
    RefusalTest test = new RefusalTest();
    test.changesAreSeen();
    test.feedAndEnd();
    test.table();
    test.tableFull();
    test.join();
    test.drop();
    test.rule();
    test.ruleByItsTape();
    test.condition();
    test.indicator();
    test.indicatorByItsTape();
    test.text();
    test.measure();
    test.set();
    test.head();
    test.lengthAndCell();
    test.page();
    test.cutAndLose();
    test.copyRow();
    test.copyLines();
    test.emboss();
    test.read();
    test.readWrong();
    test.letterFailedReading();
    test.readings();
    test.judge();
    test.parts();
    test.unreadable();
    test.saved();
    test.c.end("RefusalTest");
  }

  /** The call is refused and nothing else is changed, the TAPE too. */
  private void refused(int status, String... calls) {
    for (String call : calls) {
      compare(NOTHING, call, NOTHING, -1, status, -1, true);
    }
  }

  /** As refused(), but the TAPE is other bytes, and empty behind the call. */
  private void taken(int status, String letters, int[] cells, String... calls) {
    for (String call : calls) {
      compare(x -> { x.end(0); Check.tape(x, letters, cells); }, call, EMPTY_TAPE, -1, status, -1, true);
    }
  }

  /**
   * Ahead: both objects come to this; then one has the call, and the other what is said that the
   * call does though it is refused.
   */
  private void compare(Twins.Work ahead, String call, Twins.Work said, int answer, int status,
      int place, boolean findsToo) {
    DotPress one = Twins.inUse();
    DotPress other = Twins.inUse();
    ahead.on(one);
    ahead.on(other);
    String shown = Twins.shown(one, findsToo);
    c.due(call, Calls.say(one, call), answer);
    c.due("status() behind " + call, one.status(), status);
    c.due("place() behind " + call, one.place(), place);
    if (said == NOTHING || said == EMPTY_TAPE) {
      c.same("what is shown behind " + call, Twins.shown(one, findsToo), shown);
    }
    c.due("status() asked again behind " + call, one.status(), status);
    said.on(other);
    c.same("what is not alike behind " + call, Twins.difference(one, other, findsToo), "");
  }

  private static void textIs(DotPress x, String text) {
    x.end(0);
    Check.text(x, text);
  }

  private static int[] cells(int... cells) {
    return cells;
  }

  /** Each call that changes something makes a difference that the comparison sees. */
  private void changesAreSeen() {
    c.promise(39, "changes are seen");
    String[] calls = {"feed 0 0 0 0 0", "end 2", "end 0", "table 0 6 0", "table 4 6 0", "join 0 0",
      "drop 0", "drop 3", "drop 10", "condition 0 0 1", "condition 1 0 0", "undo", "text",
      "measure 7 3 36", "measure 6 4 36", "measure 6 3 37", "set 0", "set 1", "head 0", "cut 0 3",
      "cut 0 5", "cut 4 100", "cut 4 102", "lose 0", "lose 4", "copyRow 0 0 2 1 1", "copyLines 0 0 0",
      "copyLines 0 1 1", "copyLines 0 3 1", "emboss 0 1", "read 0 0 0", "read 0 3 1", "failed 0 1",
      "failed 1 0", "failed 2 1", "failed 6 1", "failed 7 1",
      "readings 0 0 1", "readings 0 0 3", "readings 0 2 50", "unreadable 3 1 1",
      "saved 0 0", "set 4"};
    for (String call : calls) {
      DotPress one = Twins.inUse();
      Calls.say(one, call);
      String seen = Twins.difference(one, Twins.inUse(), true);
      c.due("a difference behind " + call, seen.isEmpty() ? 0 : 1, 1);
    }
    String[] takers = {"rule 0 0 1", "rule 3 0 1", "rule 4 0 1", "indicator 0 0", "indicator 1 0",
      "indicator 2 1", "indicator 5 2", "indicator 5 3"};
    for (String call : takers) {
      DotPress one = Twins.inUse();
      one.end(0);
      Check.tape(one, "z", call.startsWith("rule") ? cells(20) : cells());
      c.due(call, Calls.say(one, call) >= 0 ? 1 : 0, 1);
      DotPress other = Twins.inUse();
      other.end(0);
      c.due("a difference behind " + call, Twins.difference(one, other, true).isEmpty() ? 0 : 1, 1);
    }
  }

  private void feedAndEnd() {
    c.promise(2, "feed refused");
    Twins.Work full = x -> {
      x.end(0);
      Check.tape(x, "abc".repeat(993) + "ab");
    };
    compare(full, "feed 1 2 3 4 5", NOTHING, -1, 6, -1, true);
    compare(full, "feed MIN MAX 0 -1 MIN", NOTHING, -1, 6, -1, true);
    c.promise(3, "end refused");
    refused(5, "end -1", "end MIN");
    refused(6, "end 4", "end MAX");
  }

  private void table() {
    c.promise(4, "table refused");
    refused(6, "table -1 6 0", "table 5 6 0", "table MIN 6 0", "table MAX 8 0");
    refused(6, "table 0 5 0", "table 0 7 0", "table 0 9 0", "table 4 0 0", "table 1 -6 0",
        "table 0 MAX 0", "table 0 MIN 0");
    refused(3, "table 1 6 11", "table 2 6 -1", "table 3 6 MAX", "table 1 8 MIN", "table 1 6 6");
    refused(4, "table 1 6 4", "table 2 6 4", "table 3 6 5", "table 1 6 8");
    // 6 stands ahead of 3 and of 4
    refused(6, "table 5 6 11", "table 1 7 11", "table 1 7 6", "table 1 7 4", "table -1 7 5");
  }

  private void tableFull() {
    c.promise(4, "the 31st TABLE refused");
    Twins.Work full = x -> {
      for (int i = 11; i < 30; i++) {
        x.table(4, 6, 0);
      }
    };
    String[] no = {"table 0 6 0", "table 4 8 0", "table 1 6 0", "table 1 6 30", "table 1 6 4"};
    for (String call : no) {
      compare(full, call, NOTHING, -1, 6, -1, true);
    }
    c.promise(5, "the 31st TABLE refused");
    compare(full, "join 0 1", NOTHING, -1, 6, -1, true);
    // here 6 stands behind 3 and 4
    compare(full, "join 6 1", NOTHING, -1, 3, -1, true);
    compare(full, "join 4 1", NOTHING, -1, 4, -1, true);
    compare(full, "join 0 30", NOTHING, -1, 3, -1, true);
    compare(full, "join 0 29", NOTHING, -1, 4, -1, true);
  }

  private void join() {
    c.promise(5, "join refused");
    refused(3, "join -1 0", "join 11 0", "join MAX 0", "join MIN 0", "join 6 0");
    refused(4, "join 4 0", "join 5 0", "join 8 0");
    refused(3, "join 0 -1", "join 0 11", "join 0 MAX", "join 0 MIN", "join 0 6");
    refused(4, "join 0 4", "join 0 5");
    // of first ahead of second
    refused(3, "join 11 4", "join 6 5", "join -1 -1");
    refused(4, "join 4 11", "join 5 6", "join 4 4");
  }

  private void drop() {
    c.promise(6, "drop refused");
    refused(3, "drop -1", "drop 11", "drop 6", "drop MAX", "drop MIN");
  }

  private void rule() {
    c.promise(7, "rule refused");
    String z = "z";
    int[] one = {20};
    taken(3, z, one, "rule -1 0 1", "rule 11 0 1", "rule 6 0 1", "rule MAX 0 1", "rule MIN 0 1");
    taken(4, z, one, "rule 5 0 1", "rule 8 0 1");
    taken(5, z, one, "rule 0 0 -1", "rule 0 0 MIN");
    taken(6, z, one, "rule 0 -1 1", "rule 0 6 1", "rule 0 MAX 1", "rule 0 MIN 1", "rule 0 0 0",
        "rule 0 0 2", "rule 0 0 3", "rule 0 0 MAX");
    // 3 ahead of 5 and 6, 4 ahead of 5 and 6, 5 ahead of 6
    taken(3, z, one, "rule 11 0 -1", "rule 11 6 1", "rule 6 0 0", "rule 11 6 -1");
    taken(4, z, one, "rule 5 0 -1", "rule 5 6 1", "rule 5 0 0", "rule 5 6 -1");
    taken(5, z, one, "rule 0 6 -1");
    taken(3, z, cells(0), "rule 11 0 1");
    taken(4, z, cells(0), "rule 5 0 1");
    taken(5, z, cells(0), "rule 0 0 -1");
    taken(3, "", cells(), "rule 11 0 1");
    taken(4, "", cells(), "rule 5 0 1");
    taken(5, "", cells(), "rule 0 0 -1");
  }

  private void ruleByItsTape() {
    c.promise(7, "rule refused by its TAPE");
    taken(6, "", cells(), "rule 0 0 0", "rule 0 0 1", "rule 0 0 8");
    taken(6, "z", cells(), "rule 0 0 1");
    taken(6, "z", cells(0), "rule 0 0 1");
    taken(6, "z", cells(1, 2, 3, 0), "rule 0 0 1");
    taken(6, "z", cells(1, 2, 3, 4, 5), "rule 0 0 1");
    taken(6, "yyyyyyyyy", cells(1), "rule 0 0 9");
    taken(6, "yyyyyyyyy", cells(1, 2, 3), "rule 0 0 9");
    taken(6, "yyyyyyyy", cells(1, 2, 3, 4, 5), "rule 0 0 8");
    taken(6, "z", cells(64), "rule 7 0 1");
    taken(6, "z", cells(1, 128), "rule 7 0 1");
    for (int b : new int[] {0, 10, 32, 126, 127, 128, 255}) {
      taken(6, "", cells(b, 20), "rule 0 0 1");
      taken(6, "z", cells(b, 20), "rule 0 0 2");
    }
  }

  private void condition() {
    c.promise(8, "condition refused");
    refused(3, "condition -1 0 0", "condition 11 0 0", "condition 6 0 0", "condition MAX 0 0",
        "condition MIN 0 0");
    refused(4, "condition 5 0 0", "condition 8 0 0");
    refused(2, "condition 0 -1 0", "condition 0 3 0", "condition 0 MAX 0", "condition 0 MIN 0",
        "condition 3 0 0", "condition 1 1 0");
    refused(6, "condition 0 0 -1", "condition 0 0 6", "condition 0 0 MAX", "condition 0 0 MIN");
    refused(3, "condition 11 0 6", "condition 6 0 0", "condition 6 9 9");
    refused(4, "condition 5 -1 0", "condition 5 0 6");
    refused(2, "condition 0 3 6", "condition 0 -1 -1");
  }

  private void indicator() {
    c.promise(9, "indicator refused");
    int[] one = {20};
    taken(6, "", one, "indicator 0 -1", "indicator 0 4", "indicator 5 4", "indicator 0 MAX",
        "indicator 0 MIN");
    taken(3, "", one, "indicator -1 0", "indicator 11 0", "indicator 6 0", "indicator MAX 1",
        "indicator MIN 2");
    taken(4, "", one, "indicator 3 0", "indicator 4 0", "indicator 5 0");
    taken(4, "", one, "indicator 0 1", "indicator 1 1", "indicator 3 1", "indicator 4 1",
        "indicator 5 1");
    taken(4, "", one, "indicator 0 2", "indicator 1 2", "indicator 2 2", "indicator 3 2",
        "indicator 4 2", "indicator 0 3", "indicator 1 3", "indicator 2 3", "indicator 3 3",
        "indicator 4 3");
    // the first 6 ahead of 3 and 4, these ahead of the TAPE's 6
    taken(6, "", one, "indicator 11 4", "indicator 6 -1");
    taken(3, "", cells(0), "indicator 11 0", "indicator 6 1");
    taken(3, "", cells(1, 2, 3, 4, 5), "indicator 11 2", "indicator 6 3");
    taken(4, "", cells(0), "indicator 0 1", "indicator 3 0");
    taken(4, "", cells(1, 2, 3, 4, 5), "indicator 0 2", "indicator 5 1");
    taken(4, "", cells(), "indicator 0 3", "indicator 3 0");
  }

  private void indicatorByItsTape() {
    c.promise(9, "indicator refused by its TAPE");
    for (String call : new String[] {"indicator 0 0", "indicator 2 1", "indicator 5 2", "indicator 5 3"}) {
      taken(6, "", cells(0), call);
      taken(6, "", cells(1, 2, 3, 0), call);
      taken(6, "", cells(1, 2, 3, 4, 5), call);
    }
    taken(6, "", cells(64), "indicator 7 0");
    taken(6, "", cells(63, 128), "indicator 7 0");
  }

  private void text() {
    c.promise(11, "text refused");
    for (int b : new int[] {0, 9, 11, 31, 127, 128, 255}) {
      taken(6, "", cells(b), "text");
      taken(6, "a", cells(b, 'a'), "text");
    }
    // TEXT has 18 bytes
    taken(6, "a".repeat(483), cells(), "text");
    taken(6, "a".repeat(3000), cells(), "text");
    taken(6, "a".repeat(483), cells(0), "text");
  }

  private void measure() {
    c.promise(12, "measure refused");
    refused(6, "measure 0 9 9", "measure 101 9 9", "measure -1 9 9", "measure MAX 9 9",
        "measure MIN 9 9");
    refused(6, "measure 9 0 9", "measure 9 51 9", "measure 9 -1 9", "measure 9 MAX 9",
        "measure 9 MIN 9");
    refused(6, "measure 9 9 0", "measure 9 9 256", "measure 9 9 -1", "measure 9 9 MAX",
        "measure 9 9 MIN");
    refused(6, "measure 0 51 256", "measure 101 0 0");
  }

  private void set() {
    c.promise(13, "set refused");
    refused(3, "set -1", "set 11", "set MAX", "set MIN", "set 6");
    refused(3, "set 7", "set 8", "set 9", "set 10");
    // 7 and 6 come by TEXT, and FIND was run
    compare(NOTHING, "set 4", NOTHING, -1, 7, 1, false);
    Twins.Work tooManyLines = x -> textIs(x, "a\n".repeat(201));
    compare(tooManyLines, "set 0", NOTHING, -1, 6, -1, false);
    Twins.Work tooManyCells = x -> textIs(x, "a".repeat(201) + " x");
    compare(tooManyCells, "set 0", NOTHING, -1, 6, -1, false);
    // 3 ahead of both
    compare(tooManyLines, "set 7", NOTHING, -1, 3, -1, true);
    compare(tooManyCells, "set 6", NOTHING, -1, 3, -1, true);
  }

  private void head() {
    c.promise(14, "head refused");
    taken(6, "a".repeat(41), cells(), "head 0");
    for (int b : new int[] {0, 10, 32, 126, 127, 255}) {
      taken(6, "", cells(b), "head 0");
      taken(6, "a", cells(b, 'a'), "head 0");
    }
    taken(3, "a", cells(), "head -1", "head 11", "head MAX", "head MIN", "head 6");
    taken(3, "a", cells(), "head 7", "head 8", "head 9", "head 10");
    taken(3, "", cells(), "head 11", "head 7");
    // 6 ahead of 3, 3 ahead of 7
    taken(6, "a".repeat(41), cells(), "head 11", "head 7");
    taken(6, "a", cells(32), "head 6");
    taken(3, "x", cells(), "head 11", "head 7");
    Twins.Work unknown = x -> {
      x.end(0);
      Check.tape(x, "aabx");
    };
    compare(unknown, "head 0", EMPTY_TAPE, -1, 7, 3, false);
    // forty times five CELLS are 200, and one more is too many
    Twins.Work tooMany = x -> {
      x.end(0);
      Check.indicator(x, 0, 0, 1, 2, 3, 4);
      Check.rule(x, 0, 0, "d", 1, 2);
      Check.tape(x, "A".repeat(39) + "D");
    };
    compare(tooMany, "head 0", EMPTY_TAPE, -1, 6, -1, false);
  }

  private void lengthAndCell() {
    c.promise(17, "length refused");
    refused(2, "length -1", "length 5", "length MAX", "length MIN");
    refused(1, "length 1");
    c.promise(18, "cell refused");
    refused(2, "cell -1 0", "cell 5 0", "cell MAX 0", "cell MIN 0");
    refused(1, "cell 1 0");
    refused(2, "cell 0 -1", "cell 0 4", "cell 0 MAX", "cell 0 MIN", "cell 4 101");
    // 1 ahead of the CELL's 2
    refused(1, "cell 1 -1", "cell 1 99", "cell 1 MAX");
  }

  private void page() {
    c.promise(19, "page refused");
    // a HEAD and two LINES on each PAGE, one LINE on the last
    refused(2, "page -1 0 0", "page 3 0 0", "page MAX 0 0", "page MIN 0 0");
    refused(2, "page 0 -1 0", "page 0 3 0", "page 0 MAX 0", "page 0 MIN 0", "page 2 2 0");
    refused(1, "page 0 2 0");
    refused(2, "page 0 1 -1", "page 0 1 4", "page 0 1 MAX", "page 0 1 MIN");
    refused(2, "page 0 0 -1", "page 0 0 2", "page 0 0 MAX", "page 0 0 MIN");
    refused(1, "page 0 2 -1", "page 0 2 99");
    // PAGES and LINES whose product or sum would wrap around to one that is there
    refused(2, "page 1073741824 1 0", "page MIN 1 0", "page -2147483647 1 0", "page MAX 3 0",
        "page MAX MAX 0");
  }

  private void cutAndLose() {
    c.promise(20, "cut refused");
    refused(6, "cut 0 201", "cut 0 MAX");
    refused(5, "cut 0 -1", "cut 0 MIN");
    refused(2, "cut -1 3", "cut 5 3", "cut MAX 3", "cut MIN 3");
    refused(1, "cut 1 3", "cut 1 0", "cut 1 200");
    refused(6, "cut 5 201", "cut -1 201", "cut 1 201");
    refused(5, "cut 5 -1", "cut 1 -1");
    c.promise(21, "lose refused");
    refused(2, "lose -1", "lose 5", "lose MAX", "lose MIN");
  }

  private void copyRow() {
    c.promise(22, "copyRow refused");
    refused(2, "copyRow -1 0 0 0 1", "copyRow 5 0 0 0 1", "copyRow MAX 0 0 0 1", "copyRow MIN 0 0 0 1");
    refused(2, "copyRow 0 0 -1 0 1", "copyRow 0 0 5 0 1", "copyRow 0 0 MAX 0 1", "copyRow 0 0 MIN 0 1");
    refused(1, "copyRow 1 0 0 0 1", "copyRow 0 0 1 0 1", "copyRow 1 0 1 0 1", "copyRow 1 0 1 0 0");
    refused(2, "copyRow 0 0 2 0 -1", "copyRow 0 0 2 0 MIN");
    refused(2, "copyRow 0 -1 2 0 1", "copyRow 0 4 2 0 1", "copyRow 0 1 2 0 4", "copyRow 0 MAX 2 0 1",
        "copyRow 0 MIN 2 0 1", "copyRow 0 -1 2 0 2");
    refused(2, "copyRow 0 0 2 -1 1", "copyRow 0 0 2 4 1", "copyRow 0 0 2 1 4", "copyRow 0 0 2 MAX 1",
        "copyRow 0 0 2 MIN 1", "copyRow 0 0 2 -1 2");
    // sums that would wrap around
    refused(2, "copyRow 0 1 2 0 MAX", "copyRow 0 0 2 1 MAX", "copyRow 0 MAX 2 MAX MAX",
        "copyRow 0 MAX 2 0 2", "copyRow 0 MIN 2 0 MIN", "copyRow 0 MIN 2 MIN MIN", "copyRow 0 1 2 1 MAX");
    // a LINE that is not there ahead of one that is lacking, this ahead of CELLS
    refused(2, "copyRow 5 0 1 0 1", "copyRow 1 0 5 0 1", "copyRow 1 0 -1 0 -1");
    refused(1, "copyRow 1 9 0 0 1", "copyRow 0 9 1 0 1", "copyRow 0 0 1 0 -1", "copyRow 1 0 0 0 MIN");
  }

  private void copyLines() {
    c.promise(23, "copyLines refused");
    refused(6, "copyLines 0 2 11", "copyLines 0 2 MAX");
    refused(5, "copyLines 0 2 -1", "copyLines 0 2 MIN");
    refused(6, "copyLines -1 2 11", "copyLines 1 2 11");
    refused(5, "copyLines 5 -1 -1");
    // what is done ahead of the first that can't be is said to stay
    said("copyLines 2 3 3", 2, "copyLines 2 3 2");
    said("copyLines 3 0 10", 2, "copyLines 3 0 2");
    said("copyLines 0 2 2", 1, "copyLines 0 2 1");
    said("copyLines 0 4 10", 2, "copyLines 0 4 1");
    for (String call : new String[] {"copyLines -1 0 1", "copyLines 5 0 1", "copyLines 0 -1 1",
        "copyLines 0 5 1", "copyLines MAX 0 2", "copyLines 0 MAX 10", "copyLines MIN 0 1",
        "copyLines 0 MIN 1", "copyLines -1 0 10"}) {
      said(call, 2, "copyLines 0 0 0");
    }
    said("copyLines 1 0 1", 1, "copyLines 0 0 0");
    // 2 ahead of 1
    said("copyLines 1 5 1", 2, "copyLines 0 0 0");
    said("copyLines 1 -1 10", 2, "copyLines 0 0 0");
  }

  private void said(String call, int status, String does) {
    compare(NOTHING, call, x -> Calls.say(x, does), -1, status, -1, true);
  }

  private void emboss() {
    c.promise(25, "emboss refused");
    refused(6, "emboss 0 201", "emboss 0 MAX", "emboss -1 201", "emboss 9 201");
    refused(5, "emboss 0 -1", "emboss 0 MIN", "emboss -1 -1", "emboss 9 -1");
    // one that is not there is closed, too
    for (String call : new String[] {"emboss -1 1", "emboss 5 1", "emboss 5 200", "emboss MAX 1",
        "emboss MAX 2", "emboss MAX 200", "emboss MIN 200", "emboss -1 2"}) {
      said(call, 2, "emboss 0 1");
    }
    compare(x -> x.cut(4, 6), "emboss 2 4", x -> x.emboss(0, 4), -1, 2, -1, true);
    compare(x -> x.cut(4, 6), "emboss 0 200", x -> { x.emboss(0, 3); x.emboss(0, 3); }, -1, 2, -1, true);
  }

  private void read() {
    c.promise(27, "read refused");
    refused(3, "read -1 0 1", "read 11 0 1", "read MAX 0 1", "read MIN 0 1", "read 6 0 1");
    refused(3, "read 7 0 1", "read 8 0 1", "read 9 0 1", "read 10 0 1", "read 7 0 0");
    refused(5, "read 0 0 -1", "read 0 0 MIN");
    refused(2, "read 0 -1 1", "read 0 5 1", "read 0 MAX 1", "read 0 MIN 1", "read 0 -1 2",
        "read 0 MAX 2", "read 0 2 4", "read 0 2 MAX", "read 0 MAX MAX", "read 0 MIN MAX");
    refused(1, "read 0 1 1", "read 0 0 2", "read 0 0 MAX", "read 0 1 MAX");
    // 3 ahead of 5, 2 and 1; 5 ahead of 2 and 1; LINE by LINE; these ahead of 9
    refused(3, "read 11 0 -1", "read 7 5 1", "read 6 1 1");
    refused(5, "read 0 5 -1", "read 0 1 -1", "read 4 0 -1");
    refused(1, "read 4 0 2", "read 4 0 9");
    refused(2, "read 4 2 9", "read 4 -1 3");
  }

  private void readWrong() {
    c.promise(27, "READ is empty behind 9 and 6");
    Twins.Work empty = x -> x.read(0, 0, 0);
    compare(NOTHING, "read 4 0 1", empty, -1, 9, 0, true);
    compare(NOTHING, "read 4 2 1", empty, -1, 9, 2000, true);
    Twins.Work much = x -> {
      textIs(x, "a".repeat(200) + "\n" + "a".repeat(200) + "\n" + "a".repeat(97));
      x.set(0);
      x.copyLines(0, 2, 1);
      Check.rule(x, x.table(0, 8, 0), 0, "aaaaaaaa", 1);
    };
    compare(much, "read 11 0 3", empty, -1, 6, -1, true);
    // 9 stands ahead of 6
    Twins.Work both = x -> {
      much.on(x);
      Check.rule(x, 0, 0, "d", 9);
      textIs(x, "a".repeat(200) + "\n" + "a".repeat(200) + "\n" + "a".repeat(97) + "d");
      x.set(0);
      x.cut(1, 200);
      x.copyLines(0, 1, 1);
    };
    compare(both, "read 11 0 3", empty, -1, 9, 2097, true);
  }

  private void letterFailedReading() {
    c.promise(28, "letter refused");
    refused(2, "letter -1", "letter 4", "letter MAX", "letter MIN");
    c.promise(29, "failed refused");
    refused(6, "failed -1 1", "failed 8 1", "failed MAX 1", "failed MIN 1", "failed -1 0",
        "failed 8 0", "failed 32 0", "failed 33 0");
    c.promise(32, "reading refused");
    refused(2, "reading -1 0", "reading 2 0", "reading MAX 0", "reading MIN 0");
    refused(2, "reading 0 -1", "reading 0 4", "reading 1 4", "reading 0 MAX", "reading 0 MIN",
        "reading 1 -1", "reading 1 MIN");
  }

  private void readings() {
    c.promise(30, "readings refused");
    refused(6, "readings 0 0 0", "readings 0 0 51", "readings 0 0 -1", "readings 0 0 MAX",
        "readings 0 0 MIN");
    refused(3, "readings -1 0 1", "readings 11 0 1", "readings 6 0 1", "readings MAX 0 1",
        "readings MIN 0 1");
    refused(3, "readings 7 0 1", "readings 8 0 1", "readings 9 0 1", "readings 10 0 1");
    refused(2, "readings 0 -1 1", "readings 0 5 1", "readings 0 MAX 1", "readings 0 MIN 1");
    refused(1, "readings 0 1 1");
    refused(6, "readings 0 4 1");
    // most ahead of all; 3 ahead of 2, 1 and too many CELLS
    refused(6, "readings 11 0 0", "readings 0 5 51", "readings 0 1 0", "readings 7 0 51");
    refused(3, "readings 11 5 1", "readings 7 1 1", "readings 6 4 1", "readings 9 -1 1");
  }

  private void judge() {
    c.promise(33, "judge refused");
    refused(3, "judge -1", "judge 11", "judge 6", "judge MAX", "judge MIN");
    refused(4, "judge 4");
    refused(3, "judge 7", "judge 8", "judge 9", "judge 10");
    compare(x -> x.drop(4), "judge 4", NOTHING, -1, 3, -1, true);
  }

  private void parts() {
    c.promise(34, "parts refused");
    refused(3, "parts -1 0 0", "parts 11 0 0", "parts 6 0 0", "parts MAX 0 0", "parts MIN 0 0");
    refused(3, "parts 7 0 0", "parts 8 0 0", "parts 9 0 0", "parts 10 0 0");
    refused(2, "parts 0 -1 0", "parts 0 4 0", "parts 0 MAX 0", "parts 0 MIN 0");
    refused(2, "parts 0 0 -1", "parts 0 0 4", "parts 0 0 MAX", "parts 0 0 MIN", "parts 0 4 4");
    refused(2, "parts 5 5 0", "parts 5 0 5", "parts 4 1 0", "parts 2 5 0");
    refused(3, "parts 11 -1 0", "parts 7 0 99", "parts 6 MAX MAX");
  }

  private void unreadable() {
    c.promise(35, "unreadable refused");
    refused(6, "unreadable 0 0 9", "unreadable 0 7 9", "unreadable 0 -1 9", "unreadable 0 MAX 9",
        "unreadable 0 MIN 9");
    refused(6, "unreadable 0 1 0", "unreadable 0 1 5001", "unreadable 0 1 -1", "unreadable 0 1 MAX",
        "unreadable 0 1 MIN");
    refused(3, "unreadable -1 1 9", "unreadable 11 1 9", "unreadable 6 1 9", "unreadable MAX 1 9",
        "unreadable MIN 1 9");
    refused(3, "unreadable 7 1 9", "unreadable 8 1 9", "unreadable 9 1 9", "unreadable 10 1 9");
    refused(6, "unreadable 11 0 9", "unreadable 7 1 0", "unreadable 6 7 5001");
    // A, B, C, a, b and c are tried
    compare(NOTHING, "unreadable 0 1 5", NOTHING, -1, 8, -1, false);
    compare(NOTHING, "unreadable 0 6 1", NOTHING, -1, 8, -1, false);
    compare(NOTHING, "unreadable 0 2 41", NOTHING, -1, 8, -1, false);
    // READ stays if there is none
    compare(NOTHING, "unreadable 0 1 6", NOTHING, 0, 0, -1, false);
  }

  private void saved() {
    c.promise(36, "saved refused");
    refused(3, "saved -1 0", "saved 11 0", "saved 6 0", "saved MAX 0", "saved MIN 0");
    refused(3, "saved 7 0", "saved 8 0", "saved 9 0", "saved 10 0");
    refused(3, "saved 0 -1", "saved 0 11", "saved 0 6", "saved 0 MAX", "saved 0 MIN");
    refused(3, "saved 0 7", "saved 0 8", "saved 0 9", "saved 0 10", "saved 6 7");
    // 3 of b ahead of 7 of a, and FIND is not run
    refused(3, "saved 4 11", "saved 4 10");
    // with 7 and 6 it answers 0
    compare(NOTHING, "saved 4 0", NOTHING, 0, 7, 1, false);
    compare(NOTHING, "saved 0 4", NOTHING, 0, 7, 1, false);
    Twins.Work tooMany = x -> textIs(x, "a".repeat(201) + " x");
    compare(tooMany, "saved 0 0", NOTHING, 0, 6, -1, false);
    compare(tooMany, "saved 4 0", NOTHING, 0, 6, -1, false);
  }
}
