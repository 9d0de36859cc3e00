/**
 * Promises 1 to 10 at their edges: the last input that is taken and the first that is refused, rows
 * that are empty, of one, and full, and ints at the ends of their range.
 */
public final class TableEdgesTest {
  private static final int MAX = Integer.MAX_VALUE;
  private static final int MIN = Integer.MIN_VALUE;

  private final Check c = new Check();

  public static void main(String[] args) {
    TableEdgesTest test = new TableEdgesTest();
    test.newHasNoTables();
    test.newHasNoLines();
    test.newHasNoText();
    test.newMeasures();
    test.newHasNoHead();
    test.newHasNoFailedDots();
    test.feedBytes();
    test.feedUpToFull();
    test.end();
    test.tableKindsAndDots();
    test.tableBases();
    test.thirtyTables();
    test.thirtyWithDropped();
    test.joinKinds();
    test.joinDots();
    test.joinThirtieth();
    test.drop();
    test.ruleLetters();
    test.ruleLetterBytes();
    test.ruleCells();
    test.ruleDots();
    test.ruleConditions();
    test.ruleNumbers();
    test.twoHundredRules();
    test.condition();
    test.indicatorCells();
    test.indicatorsAreEmptyAtFirst();
    test.undoNone();
    test.undoEach();
    test.undoIndicators();
    test.undoFull();
    test.undoNumbers();
    test.c.end("TableEdgesTest");
  }

  // ---- promise 1

  private void newHasNoTables() {
    c.promise(1, "no TABLES");
    DotPress x = new DotPress();
    c.refused(x, "BASE 0", x.table(1, 6, 0), 3);
    c.refused(x, "join(0, 0)", x.join(0, 0), 3);
    c.refused(x, "drop(0)", x.drop(0), 3);
    c.refused(x, "rule(0, 0, 0)", x.rule(0, 0, 0), 3);
    c.refused(x, "condition(0, 0, 0)", x.condition(0, 0, 0), 3);
    c.refused(x, "indicator(0, 0)", x.indicator(0, 0), 3);
    c.refused(x, "set(0)", x.set(0), 3);
    c.refused(x, "head(0)", x.head(0), 3);
    c.refused(x, "read(0, 0, 0)", x.read(0, 0, 0), 3);
    c.refused(x, "readings(0, 0, 1)", x.readings(0, 0, 1), 3);
    c.refused(x, "judge(0)", x.judge(0), 3);
    c.refused(x, "parts(0, 0, 0)", x.parts(0, 0, 0), 3);
    c.refused(x, "unreadable(0, 1, 1)", x.unreadable(0, 1, 1), 3);
    c.refused(x, "saved(0, 0)", x.saved(0, 0), 3);
    c.done(x, "undo()", x.undo(), 0);
    c.done(x, "the first TABLE", x.table(0, 6, 0), 0);
  }

  private void newHasNoLines() {
    c.promise(1, "no LINES");
    DotPress x = new DotPress();
    c.due("lines()", x.lines(), 0);
    c.due("pages()", x.pages(), 0);
    c.refused(x, "length(0)", x.length(0), 2);
    c.refused(x, "cell(0, 0)", x.cell(0, 0), 2);
    c.refused(x, "page(0, 0, 0)", x.page(0, 0, 0), 2);
    c.refused(x, "cut(0, 0)", x.cut(0, 0), 2);
    c.refused(x, "lose(0)", x.lose(0), 2);
    c.refused(x, "copyRow(0, 0, 0, 0, 0)", x.copyRow(0, 0, 0, 0, 0), 2);
    c.done(x, "copyLines(0, 0, 0)", x.copyLines(0, 0, 0), 0);
    c.refused(x, "copyLines(0, 0, 1)", x.copyLines(0, 0, 1), 2);
    c.due("copied()", x.copied(), 0);
    c.done(x, "emboss(0, 0)", x.emboss(0, 0), 0);
    c.due("closed()", x.closed(), 0);
    c.refused(x, "emboss(0, 1)", x.emboss(0, 1), 2);
    c.due("closed()", x.closed(), 1);
    x.table(0, 6, 0);
    c.done(x, "read(0, 0, 0)", x.read(0, 0, 0), 0);
    c.refused(x, "read(0, 0, 1)", x.read(0, 0, 1), 2);
    c.refused(x, "readings(0, 0, 1)", x.readings(0, 0, 1), 2);
  }

  private void newHasNoText() {
    c.promise(1, "no TEXT, READ is empty");
    DotPress x = new DotPress();
    c.refused(x, "letter(0)", x.letter(0), 2);
    c.refused(x, "reading(0, 0)", x.reading(0, 0), 2);
    c.due("more()", x.more(), 0);
    x.table(0, 6, 0);
    c.done(x, "set() of no TEXT", x.set(0), 0);
    c.done(x, "saved() of no TEXT", x.saved(0, 0), 0);
    c.done(x, "text() of an empty TAPE", x.text(), 0);
    c.done(x, "end(0)", x.end(0), 0);
    c.refused(x, "end(1)", x.end(1), 6);
  }

  private void newMeasures() {
    c.promise(1, "WIDTH 32, HEIGHT 25, HYPHEN 36");
    DotPress x = new DotPress();
    Check.plain(x, "a");
    Check.text(x, "a".repeat(32));
    x.set(0);
    c.done(x, "32 CELLS are not too long", x.emboss(0, 1), 32);
    x.cut(0, 33);
    c.done(x, "33 CELLS are too long", x.emboss(0, 1), 0);
    Check.text(x, "a".repeat(31) + "~aa");
    c.due("31 and the HYPHEN fit", x.set(0), 2);
    c.due("the HYPHEN", x.cell(0, 31), 36);
    Check.text(x, "a".repeat(32) + "~aa");
    c.due("32 and the HYPHEN do not", x.set(0), 1);
    Check.text(x, "\n".repeat(25));
    x.set(0);
    c.due("25 LINES", x.pages(), 1);
    c.refused(x, "LINE 24 is on the PAGE, without CELLS", x.page(0, 24, 0), 2);
    Check.text(x, "\n".repeat(26));
    x.set(0);
    c.due("26 LINES", x.pages(), 2);
  }

  private void newHasNoHead() {
    c.promise(1, "no HEAD");
    DotPress x = new DotPress();
    Check.plain(x, "ab");
    Check.text(x, "b");
    x.set(0);
    c.done(x, "LINE 0 of the PAGE is LINE 0", x.page(0, 0, 0), 2);
    c.refused(x, "there is no other", x.page(0, 1, 0), 2);
  }

  private void newHasNoFailedDots() {
    c.promise(1, "no FAILED dots");
    for (int d = 0; d < 8; d++) {
      DotPress x = new DotPress();
      c.done(x, "one has", x.failed(d, true), 1);
      DotPress y = new DotPress();
      c.done(y, "none has", y.failed(d, false), 0);
    }
  }

  // ---- promises 2 and 3

  /** INDICATORS take all bytes but 0, so that they show what is on the TAPE. */
  private void feedBytes() {
    c.promise(2, "the highest byte of each first");
    DotPress x = new DotPress();
    Check.plain(x, "a");
    int[] ints = {MIN + 0x010101, MAX, -1, 0x01020304, 0xfffefdfc};
    String[] due = {"128 1 1 1", "127 255 255 255", "255 255 255 255", "1 2 3 4", "255 254 253 252"};
    for (int i = 0; i < ints.length; i++) {
      x.feed(ints[i], 0, 0, 0, 0);
      x.end(4);
      c.done(x, "CAPITAL", x.indicator(0, 0), 4);
      Check.text(x, "A");
      x.set(0);
      c.same("the four bytes", Check.line(x, 0), due[i] + " 1");
    }
    // the ints in their order
    x.feed(0x61616161, 0x62626262, 0x63636363, 0x64646464, 0x65656565);
    c.done(x, "all are LETTERS", x.end(20), 20);
    c.due("head", x.head(0), -1);
    c.due("the second int is the first that is UNKNOWN", x.place(), 4);
  }

  private void feedUpToFull() {
    c.promise(2, "3000 bytes");
    DotPress x = new DotPress();
    c.done(x, "an empty TAPE", x.feed(0, 0, 0, 0, 0), 20);
    for (int i = 2; i <= 149; i++) {
      x.feed(0, 0, 0, 0, 0);
    }
    c.done(x, "the 150th", x.feed(MIN, MIN, MIN, MIN, MIN), 3000);
    c.refused(x, "it is full", x.feed(0, 0, 0, 0, 0), 6);
    c.refused(x, "it has no 3001", x.end(3001), 6);
    c.done(x, "it has all", x.end(3000), 3000);
    c.done(x, "one less", x.end(2999), 2999);
    c.refused(x, "3019 are too many", x.feed(0, 0, 0, 0, 0), 6);
    c.done(x, "2981", x.end(2981), 2981);
    c.refused(x, "3001 are too many", x.feed(0, 0, 0, 0, 0), 6);
    c.done(x, "2980", x.end(2980), 2980);
    c.done(x, "3000 are not", x.feed(0, 0, 0, 0, 0), 3000);
    c.refused(x, "of a full TAPE", x.text(), 6);
    c.done(x, "behind it the TAPE is empty", x.feed(0, 0, 0, 0, 0), 20);
  }

  private void end() {
    c.promise(3, "end");
    DotPress x = new DotPress();
    c.done(x, "0 of none", x.end(0), 0);
    c.refused(x, "1 of none", x.end(1), 6);
    c.refused(x, "-1 of none", x.end(-1), 5);
    x.feed(0x61626364, 0x65666768, 0, 0, 0);
    c.refused(x, "-1", x.end(-1), 5);
    c.refused(x, "MIN", x.end(MIN), 5);
    c.refused(x, "21", x.end(21), 6);
    c.refused(x, "MAX", x.end(MAX), 6);
    c.done(x, "20, refused ones left it", x.end(20), 20);
    c.done(x, "8", x.end(8), 8);
    c.refused(x, "what is gone is gone", x.end(9), 6);
    c.done(x, "it goes on behind the first ones", x.feed(0x69000000, 0, 0, 0, 0), 28);
    c.done(x, "9", x.end(9), 9);
    x.table(0, 8, 0);
    x.end(8);
    x.feed(0x01020304, 0, 0, 0, 0);
    x.end(12);
    c.done(x, "8 LETTERS, 4 CELLS", x.rule(0, 0, 8), 0);
    Check.text(x, "abcdefgh");
    x.set(0);
    c.same("the first bytes stayed", Check.line(x, 0), "1 2 3 4");
    x.feed(0, 0, 0, 0, 0);
    c.done(x, "none", x.end(0), 0);
    c.refused(x, "none", x.end(1), 6);
    c.done(x, "none", x.end(0), 0);
  }

  // ---- promises 4, 5 and 6

  private void tableKindsAndDots() {
    c.promise(4, "KINDS and DOTS");
    DotPress x = new DotPress();
    for (int kind : new int[] {-1, 5, 6, MAX, MIN}) {
      c.refused(x, "KIND " + kind, x.table(kind, 6, 0), 6);
    }
    for (int dots : new int[] {5, 7, 9, 0, -6, -8, 14, MAX, MIN}) {
      c.refused(x, "DOTS " + dots, x.table(0, dots, 0), 6);
    }
    int n = 0;
    for (int kind = 0; kind <= 4; kind++) {
      c.done(x, "KIND " + kind + ", 6 DOTS", x.table(kind, 6, 0), n++);
      c.done(x, "KIND " + kind + ", 8 DOTS", x.table(kind, 8, 0), n++);
    }
  }

  private void tableBases() {
    c.promise(4, "BASES");
    DotPress x = new DotPress();
    // base does not count for KIND 0 and 4
    int[] none = {-1, 0, 7, MAX, MIN};
    for (int base : none) {
      c.due("Plain", x.table(0, 6, base) >= 0 ? 1 : 0, 1);
      c.due("Music", x.table(4, 6, base) >= 0 ? 1 : 0, 1);
    }
    for (int kind = 1; kind <= 3; kind++) {
      c.refused(x, "BASE -1", x.table(kind, 6, -1), 3);
      c.refused(x, "BASE 10, its own", x.table(kind, 6, 10), 3);
      c.refused(x, "BASE MAX", x.table(kind, 6, MAX), 3);
      c.refused(x, "BASE MIN", x.table(kind, 6, MIN), 3);
      c.refused(x, "Music", x.table(kind, 6, 9), 4);
    }
    c.done(x, "under Plain", x.table(1, 6, 0), 10);
    c.done(x, "under Contracted, the last one", x.table(2, 6, 10), 11);
    c.done(x, "under Numeric", x.table(3, 6, 11), 12);
    c.done(x, "under Short", x.table(1, 6, 12), 13);
    c.done(x, "Short under Short", x.table(3, 8, 12), 14);
    x.join(0, 13);
    for (int kind = 1; kind <= 3; kind++) {
      c.refused(x, "a Joined", x.table(kind, 6, 15), 4);
    }
    x.drop(9);
    x.drop(15);
    x.drop(2);
    c.refused(x, "Music that is dropped", x.table(1, 6, 9), 3);
    c.refused(x, "a Joined that is dropped", x.table(1, 6, 15), 3);
    c.refused(x, "Plain that is dropped", x.table(1, 6, 2), 3);
    c.done(x, "base does not count for Plain, dropped", x.table(0, 6, 2), 16);
  }

  private void thirtyTables() {
    c.promise(4, "30 TABLES");
    DotPress x = new DotPress();
    for (int i = 0; i < 29; i++) {
      x.table(i == 0 ? 0 : 1 + i % 3, 6, i - 1);
    }
    c.done(x, "the 30th, under all others", x.table(1, 6, 28), 29);
    c.refused(x, "the 31st", x.table(0, 6, 0), 6);
    c.refused(x, "the 31st, with a BASE", x.table(1, 6, 29), 6);
    c.refused(x, "6 ahead of 3", x.table(1, 6, 30), 6);
    Check.rule(x, 0, 0, "a", 1);
    Check.text(x, "a");
    c.done(x, "set by the 30th", x.set(29), 1);
    c.same("by the RULE of the first", Check.line(x, 0), "1");
    c.done(x, "rule", x.undo(), 1);
    c.done(x, "the 30th is taken back", x.undo(), 1);
    c.refused(x, "it is none", x.set(29), 3);
    c.done(x, "the 30th once more", x.table(4, 8, 0), 29);
    c.refused(x, "the 31st", x.table(4, 8, 0), 6);
  }

  private void thirtyWithDropped() {
    c.promise(4, "30 TABLES may be made, dropped ones too");
    DotPress x = new DotPress();
    for (int i = 0; i < 30; i++) {
      x.table(0, 6, 0);
      x.drop(i);
    }
    c.refused(x, "all are dropped", x.table(0, 6, 0), 6);
    c.refused(x, "no room ahead of a BASE that is dropped", x.table(1, 6, 3), 6);
    c.refused(x, "join: 3 ahead of no room", x.join(3, 4), 3);
    x.undo();
    c.refused(x, "a drop that is taken back gives no room", x.table(0, 6, 0), 6);
    x.undo();
    c.done(x, "a TABLE that is taken back does", x.table(0, 6, 0), 29);
  }

  private void joinKinds() {
    c.promise(5, "KINDS");
    DotPress x = new DotPress();
    for (int kind = 0; kind <= 4; kind++) {
      x.table(kind, 6, 0);
    }
    int n = 5;
    for (int first = 0; first <= 3; first++) {
      for (int second = 0; second <= 3; second++) {
        c.done(x, "join(" + first + ", " + second + ")", x.join(first, second), n++);
      }
    }
    c.refused(x, "Music", x.join(4, 0), 4);
    c.refused(x, "Music", x.join(0, 4), 4);
    c.refused(x, "a Joined", x.join(5, 0), 4);
    c.refused(x, "a Joined", x.join(0, 20), 4);
    c.refused(x, "its own number", x.join(0, 21), 3);
    c.refused(x, "its own number", x.join(21, 0), 3);
    c.refused(x, "MAX", x.join(MAX, MIN), 3);
    c.refused(x, "MIN", x.join(0, MIN), 3);
    c.done(x, "none of these was made", x.join(0, 0), 21);
  }

  private void joinDots() {
    c.promise(5, "the greater DOTS of both");
    for (int first = 6; first <= 8; first += 2) {
      for (int second = 6; second <= 8; second += 2) {
        DotPress x = new DotPress();
        x.table(0, first, 0);
        x.table(0, second, 0);
        x.join(0, 1);
        int most = Math.max(first, second) == 8 ? 255 : 63;
        for (int which = 2; which <= 3; which++) {
          c.done(x, "CELL " + most, Check.indicator(x, 2, which, most), 1);
          c.due("CELL 64", Check.indicator(x, 2, which, 64), most == 255 ? 1 : -1);
          c.due("status()", x.status(), most == 255 ? 0 : 6);
        }
      }
    }
  }

  private void joinThirtieth() {
    c.promise(5, "no room");
    DotPress x = new DotPress();
    x.table(0, 6, 0);
    x.table(4, 6, 0);
    for (int i = 2; i < 29; i++) {
      x.table(0, 6, 0);
    }
    c.done(x, "the 30th", x.join(0, 28), 29);
    c.refused(x, "the 31st", x.join(0, 28), 6);
    c.refused(x, "3 of first ahead", x.join(30, 0), 3);
    c.refused(x, "4 of first ahead", x.join(1, 0), 4);
    c.refused(x, "4 of first ahead, the Joined", x.join(29, 0), 4);
    c.refused(x, "3 of second ahead", x.join(0, 30), 3);
    c.refused(x, "4 of second ahead", x.join(0, 1), 4);
    x.undo();
    c.done(x, "the 30th once more", x.join(0, 0), 29);
  }

  private void drop() {
    c.promise(6, "drop");
    DotPress x = new DotPress();
    x.table(0, 6, 0);
    c.refused(x, "-1", x.drop(-1), 3);
    c.refused(x, "1", x.drop(1), 3);
    c.refused(x, "MAX", x.drop(MAX), 3);
    c.refused(x, "MIN", x.drop(MIN), 3);
    c.done(x, "the only one", x.drop(0), 1);
    c.refused(x, "it is none", x.drop(0), 3);
    c.done(x, "its number is not given again", x.table(0, 6, 0), 1);
    c.refused(x, "it is none", x.set(0), 3);
    c.refused(x, "it is none for rule()", x.rule(0, 0, 0), 3);
    c.refused(x, "it is none for condition()", x.condition(0, 0, 0), 3);
    c.refused(x, "it is none for indicator()", x.indicator(0, 0), 3);
    c.done(x, "drop() is taken back", takeBackTwo(x), 1);
    c.done(x, "it is there again", x.drop(0), 1);
  }

  private static int takeBackTwo(DotPress x) {
    x.undo();
    return x.undo();
  }

  // ---- promise 7

  private void ruleLetters() {
    c.promise(7, "1 to 8 LETTERS");
    DotPress x = new DotPress();
    x.table(0, 6, 0);
    int n = 0;
    for (int m = 0; m <= 10; m++) {
      int got = Check.rule(x, 0, 0, "abcdefghij".substring(0, m), 1);
      c.due(m + " LETTERS", got, m >= 1 && m <= 8 ? n++ : -1);
      c.due("status() of " + m + " LETTERS", x.status(), m >= 1 && m <= 8 ? 0 : 6);
      c.due("the TAPE is empty", x.end(1), -1);
    }
    // m, not the bytes, tells where the CELLS begin
    Check.tape(x, "", 33, 34, 35, 36);
    c.done(x, "one of four", x.rule(0, 0, 1), 8);
    Check.tape(x, "", 33, 34, 35, 36);
    c.done(x, "three of four", x.rule(0, 0, 3), 9);
    Check.tape(x, "", 33, 34, 35, 36);
    c.refused(x, "four of four", x.rule(0, 0, 4), 6);
    Check.tape(x, "", 33, 34, 35, 36);
    c.refused(x, "five of four", x.rule(0, 0, 5), 6);
    c.due("both were made", x.parts(0, 8, 9), 0);
    c.due("of three CELLS", x.parts(0, 8, 8), -4);
    c.due("of one CELL", x.parts(0, 9, 9), -2);
  }

  private void ruleLetterBytes() {
    c.promise(7, "LETTERS are bytes 33 to 125");
    DotPress x = new DotPress();
    x.table(0, 8, 0);
    int n = 0;
    for (int b : new int[] {0, 10, 31, 32, 33, 34, 124, 125, 126, 127, 128, 255}) {
      boolean is = b >= 33 && b <= 125;
      Check.tape(x, "", b, 1);
      c.due("byte " + b, x.rule(0, 0, 1), is ? n++ : -1);
      c.due("status()", x.status(), is ? 0 : 6);
      Check.tape(x, "aaaaaaa", b, 1);
      c.due("byte " + b + " at the end", x.rule(0, 0, 8), is ? n++ : -1);
      Check.tape(x, "", b, 'a', 1);
      c.due("byte " + b + " at first", x.rule(0, 0, 2), is ? n++ : -1);
    }
  }

  private void ruleCells() {
    c.promise(7, "1 to 4 CELLS that are not 0");
    DotPress x = new DotPress();
    x.table(0, 8, 0);
    int n = 0;
    for (int k = 0; k <= 6; k++) {
      int got = Check.rule(x, 0, 0, "abcdefgh", java.util.Arrays.copyOf(new int[] {9, 9, 9, 9, 9, 9}, k));
      c.due(k + " CELLS", got, k >= 1 && k <= 4 ? n++ : -1);
      c.due("status() of " + k + " CELLS", x.status(), k >= 1 && k <= 4 ? 0 : 6);
    }
    for (int at = 0; at < 4; at++) {
      int[] cells = {1, 2, 3, 4};
      cells[at] = 0;
      c.refused(x, "CELL " + at + " is 0", Check.rule(x, 0, 0, "a", cells), 6);
    }
    x.feed(0x61010101, 0, 0, 0, 0);
    c.refused(x, "19 CELLS, no end()", x.rule(0, 0, 1), 6);
    for (int i = 0; i < 8; i++) {
      x.feed(0x61616161, 0x61616161, 0x61616161, 0x61616161, 0x61616161);
    }
    c.refused(x, "a long TAPE", x.rule(0, 0, 8), 6);
    c.refused(x, "an empty TAPE", x.rule(0, 0, 8), 6);
    c.due("four RULES", x.parts(0, 3, 3), -5);
    c.due("four RULES", x.parts(0, 4, 4), -1);
  }

  private void ruleDots() {
    c.promise(7, "no CELL has other DOTS");
    for (int dots = 6; dots <= 8; dots += 2) {
      DotPress x = new DotPress();
      for (int kind = 0; kind <= 4; kind++) {
        x.table(kind, dots, 0);
        int n = 0;
        for (int cell : new int[] {1, 32, 63, 64, 127, 128, 192, 255}) {
          boolean is = dots == 8 || cell <= 63;
          c.due("CELL " + cell, Check.rule(x, kind, 0, "a", cell), is ? n++ : -1);
          c.due("status()", x.status(), is ? 0 : 6);
          c.due("CELL " + cell + " at the end", Check.rule(x, kind, 0, "a", 1, cell), is ? n++ : -1);
        }
      }
    }
  }

  private void ruleConditions() {
    c.promise(7, "CONDITION 0 to 5");
    DotPress x = new DotPress();
    x.table(0, 6, 0);
    int n = 0;
    for (int condition : new int[] {MIN, -1, 0, 1, 2, 3, 4, 5, 6, 7, MAX}) {
      boolean is = condition >= 0 && condition <= 5;
      c.due("CONDITION " + condition, Check.rule(x, 0, condition, "a", 1), is ? n++ : -1);
      c.due("status()", x.status(), is ? 0 : 6);
    }
    for (int r = 0; r <= 5; r++) {
      c.done(x, "it was taken", x.condition(0, r, 0), r);
    }
  }

  private void ruleNumbers() {
    c.promise(7, "m at the ends of its range");
    DotPress x = new DotPress();
    x.table(0, 6, 0);
    x.join(0, 0);
    for (int m : new int[] {MIN, MIN + 1, -2, -1}) {
      Check.tape(x, "a", 1);
      c.refused(x, "m " + m, x.rule(0, 0, m), 5);
      Check.tape(x, "a", 1);
      c.refused(x, "of a Joined, m " + m, x.rule(1, 0, m), 4);
      Check.tape(x, "a", 1);
      c.refused(x, "of none, m " + m, x.rule(2, 0, m), 3);
      c.refused(x, "an empty TAPE, m " + m, x.rule(0, 0, m), 5);
    }
    for (int m : new int[] {0, 2, 3, 9, MAX - 1, MAX}) {
      Check.tape(x, "a", 1);
      c.refused(x, "m " + m, x.rule(0, 0, m), 6);
      c.refused(x, "an empty TAPE, m " + m, x.rule(0, 0, m), 6);
    }
    Check.tape(x, "a", 1);
    c.done(x, "m 1", x.rule(0, 0, 1), 0);
  }

  /** Beyond the calls that are promised: three are needed for each RULE. */
  private void twoHundredRules() {
    c.promise(7, "200 RULES");
    DotPress x = new DotPress();
    x.table(0, 6, 0);
    x.table(4, 6, 0);
    for (int i = 0; i < 199; i++) {
      x.feed(0x61010000, 0, 0, 0, 0);
      x.end(2);
      x.rule(0, 0, 1);
    }
    c.done(x, "the 200th", Check.rule(x, 0, 0, "b", 2), 199);
    c.refused(x, "the 201st", Check.rule(x, 0, 0, "c", 3), 6);
    c.refused(x, "5 ahead of no room", x.rule(0, 0, -1), 5);
    c.done(x, "another TABLE has room", Check.rule(x, 1, 0, "c", 3), 0);
    c.done(x, "the last one", x.condition(0, 199, 1), 0);
    c.refused(x, "none behind it", x.condition(0, 200, 1), 2);
    Check.text(x, "bab");
    c.refused(x, "a b that does not begin", x.parts(0, 200, 0), 2);
    c.due("UNKNOWN", x.set(0), -1);
    c.due("the last b", x.place(), 2);
  }

  // ---- promises 8, 9 and 10

  private void condition() {
    c.promise(8, "condition");
    DotPress x = new DotPress();
    x.table(0, 6, 0);
    x.table(1, 6, 0);
    x.table(4, 6, 0);
    x.join(0, 1);
    c.refused(x, "no RULES", x.condition(0, 0, 0), 2);
    Check.rule(x, 0, 4, "a", 1);
    c.done(x, "one RULE", x.condition(0, 0, 4), 4);
    c.refused(x, "the BASE's RULES are not its own", x.condition(1, 0, 0), 2);
    c.refused(x, "nor FIRST's a Joined's", x.condition(3, 0, 0), 4);
    c.refused(x, "Music has none yet", x.condition(2, 0, 0), 2);
    Check.rule(x, 2, 0, "a", 1);
    c.done(x, "Music", x.condition(2, 0, 5), 0);
    for (int r : new int[] {-1, 1, MAX, MIN}) {
      c.refused(x, "RULE " + r, x.condition(0, r, 0), 2);
      c.refused(x, "2 ahead of 6", x.condition(0, r, 6), 2);
    }
    for (int condition : new int[] {-1, 6, MAX, MIN}) {
      c.refused(x, "CONDITION " + condition, x.condition(0, 0, condition), 6);
    }
    int before = 4;
    for (int condition = 0; condition <= 5; condition++) {
      c.done(x, "CONDITION " + condition, x.condition(0, 0, condition), before);
      before = condition;
    }
    x.drop(3);
    c.refused(x, "a Joined that is dropped", x.condition(3, 0, 0), 3);
  }

  private void indicatorCells() {
    c.promise(9, "0 to 4 CELLS that are not 0");
    DotPress x = new DotPress();
    x.table(0, 6, 0);
    x.table(2, 8, 0);
    x.join(0, 1);
    x.join(0, 0);
    int[][] places = {{0, 0, 63}, {1, 0, 255}, {1, 1, 255}, {2, 2, 255}, {2, 3, 255}, {3, 2, 63}, {3, 3, 63}};
    for (int[] place : places) {
      int t = place[0];
      int which = place[1];
      int most = place[2];
      c.done(x, "empty, as it was", x.indicator(t, which), 0);
      for (int n = 1; n <= 5; n++) {
        int[] cells = java.util.Arrays.copyOf(new int[] {most, 1, 1, most, 1}, n);
        c.due(n + " CELLS", Check.indicator(x, t, which, cells), n <= 4 ? n : -1);
        c.due("status()", x.status(), n <= 4 ? 0 : 6);
        c.due("the TAPE is empty", x.end(1), -1);
      }
      c.refused(x, "CELL 0", Check.indicator(x, t, which, 0), 6);
      c.refused(x, "CELL 0 at the end", Check.indicator(x, t, which, 1, 0), 6);
      c.due("a CELL of other DOTS", Check.indicator(x, t, which, 1, 64), most == 63 ? -1 : 2);
      c.done(x, "empty again", x.indicator(t, which), 0);
    }
  }

  private void indicatorsAreEmptyAtFirst() {
    c.promise(9, "empty at first, and empty again");
    DotPress x = new DotPress();
    Check.plain(x, "a");
    x.table(2, 8, 0);
    Check.rule(x, 1, 0, "1", 9);
    int j = x.join(0, 1);
    for (int turn = 0; turn < 2; turn++) {
      c.refused(x, "no CAPITAL among ROWS", x.parts(0, 1, 1), 2);
      c.refused(x, "no CAPITAL, no NUMBER among ROWS", x.parts(1, 2, 2), 2);
      c.refused(x, "no CHANGE among ROWS", x.parts(j, 1, 1), 2);
      Check.text(x, "A");
      c.due("no CAPITAL", x.set(0), -1);
      Check.text(x, "1");
      c.due("no NUMBER", x.saved(1, 1), 0);
      c.due("status()", x.status(), 0);
      c.due("one CELL", x.set(1) == 1 ? x.length(0) : -9, 1);
      Check.text(x, "a<");
      c.due("no CHANGE", x.set(j), -1);
      c.due("place()", x.place(), 1);
      Check.indicator(x, 0, 0, 20);
      Check.indicator(x, 1, 0, 20);
      Check.indicator(x, 1, 1, 21);
      Check.indicator(x, j, 2, 22);
      Check.indicator(x, j, 3, 23);
      c.done(x, "CAPITAL", x.parts(0, 1, 1), -2);
      c.done(x, "NUMBER", x.parts(1, 3, 3), -2);
      c.done(x, "CAPITAL of FIRST, then CHANGE", x.parts(j, 1, 2), 0);
      c.refused(x, "no other", x.parts(j, 3, 3), 2);
      x.indicator(0, 0);
      x.indicator(1, 0);
      x.indicator(1, 1);
      x.indicator(j, 2);
      x.indicator(j, 3);
    }
  }

  private void undoNone() {
    c.promise(10, "there is none");
    DotPress x = new DotPress();
    c.done(x, "of a new one", x.undo(), 0);
    // what was refused was not done
    x.table(5, 6, 0);
    x.join(0, 0);
    x.drop(0);
    x.rule(0, 0, 1);
    x.condition(0, 0, 0);
    x.indicator(0, 0);
    c.done(x, "of refused ones", x.undo(), 0);
    // other calls are not taken back
    x.measure(9, 9, 9);
    Check.tape(x, "a");
    x.text();
    x.failed(1, true);
    c.done(x, "of others", x.undo(), 0);
    x.table(0, 6, 0);
    c.done(x, "the only one", x.undo(), 1);
    c.done(x, "none any more", x.undo(), 0);
    c.done(x, "and again", x.undo(), 0);
    x.set(0);
    c.done(x, "it sets STATUS", x.undo(), 0);
  }

  private void undoEach() {
    c.promise(10, "each of the six is taken back");
    DotPress x = new DotPress();
    x.table(0, 6, 0);
    x.join(0, 0);
    Check.rule(x, 0, 3, "a", 1);
    x.condition(0, 0, 5);
    Check.indicator(x, 0, 0, 9, 9);
    x.drop(0);
    // refused ones in between do not count
    x.drop(0);
    x.rule(0, 0, 0);
    c.refused(x, "dropped", x.parts(0, 0, 0), 3);
    c.done(x, "drop", x.undo(), 1);
    c.done(x, "the CAPITAL is there", x.parts(0, 1, 1), -3);
    c.done(x, "indicator", x.undo(), 1);
    c.refused(x, "the CAPITAL is empty", x.parts(0, 1, 1), 2);
    c.done(x, "condition", x.undo(), 1);
    c.done(x, "the one before", x.condition(0, 0, 3), 3);
    c.done(x, "that of the same CONDITION", x.undo(), 1);
    c.done(x, "rule", x.undo(), 1);
    c.refused(x, "no RULE", x.parts(0, 0, 0), 2);
    c.done(x, "the Joined is there", x.judge(1), 1);
    c.done(x, "join", x.undo(), 1);
    c.refused(x, "no Joined", x.judge(1), 3);
    c.done(x, "table", x.undo(), 1);
    c.refused(x, "no TABLE", x.judge(0), 3);
    c.done(x, "none", x.undo(), 0);
  }

  private void undoIndicators() {
    c.promise(10, "each INDICATOR is as it was");
    DotPress x = new DotPress();
    x.table(0, 6, 0);
    Check.rule(x, 0, 0, "a", 1);
    x.table(2, 6, 0);
    Check.rule(x, 1, 0, "1", 1);
    x.join(0, 1);
    int[] owners = {1, 1, 2, 2};
    for (int which = 0; which < owners.length; which++) {
      Check.indicator(x, owners[which], which, 10 + which);
    }
    c.laid(x, 1, "A1", "10 1 11 1");
    c.laid(x, 2, "a<1>a", "1 12 11 1 13 1");
    for (int which = 0; which < owners.length; which++) {
      Check.indicator(x, owners[which], which, 20, 20 + which);
    }
    c.laid(x, 2, "a<1>a", "1 20 22 20 21 1 20 23 1");
    for (int which = 0; which < owners.length; which++) {
      c.done(x, "the second one", x.undo(), 1);
    }
    c.laid(x, 1, "A1", "10 1 11 1");
    c.laid(x, 2, "a<1>a", "1 12 11 1 13 1");
    c.done(x, "BACK", x.undo(), 1);
    c.unknown(x, 2, "a<1>a", 3);
    c.done(x, "CHANGE", x.undo(), 1);
    c.unknown(x, 2, "a<1>a", 1);
    c.done(x, "NUMBER", x.undo(), 1);
    c.laid(x, 1, "A1", "10 1 1");
    c.done(x, "CAPITAL", x.undo(), 1);
    c.unknown(x, 1, "A1", 0);
  }

  /** As many changes as the promised calls can make and take back. */
  private void undoFull() {
    c.promise(10, "all are taken back");
    DotPress x = new DotPress();
    x.table(0, 6, 0);
    x.feed(0x61010000, 0, 0, 0, 0);
    x.end(2);
    x.rule(0, 0, 1);
    int changes = 250;
    for (int i = 1; i <= changes; i++) {
      c.due("the one before", x.condition(0, 0, i % 6), (i - 1) % 6);
    }
    for (int i = 0; i < changes + 2; i++) {
      c.due("undo()", x.undo(), 1);
    }
    c.due("none", x.undo(), 0);
    c.refused(x, "the TABLE is taken back, too", x.judge(0), 3);
  }

  private void undoNumbers() {
    c.promise(10, "a TABLE's number is given again");
    DotPress x = new DotPress();
    x.table(0, 6, 0);
    x.table(1, 6, 0);
    Check.rule(x, 1, 0, "a", 1);
    x.undo();
    x.undo();
    c.done(x, "another KIND", x.table(4, 8, 0), 1);
    c.refused(x, "it has no RULES of the old one", x.condition(1, 0, 0), 2);
    c.done(x, "it has its own DOTS", Check.rule(x, 1, 0, "a", 255), 0);
    x.drop(1);
    x.undo();
    x.undo();
    c.done(x, "the RULE is taken back, not the TABLE", x.undo(), 1);
    c.done(x, "its number once more", x.join(0, 0), 1);
    x.drop(0);
    c.refused(x, "what it is joined of", x.judge(1), 3);
    c.done(x, "drop", x.undo(), 1);
    c.done(x, "found again", x.judge(1), 1);
  }
}
