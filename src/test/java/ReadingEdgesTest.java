/**
 * Promises 27 to 36 at their edges: the last input that is taken and the first that is refused, rows
 * that are empty, of one, and full, and ints at the ends of their range.
 */
public final class ReadingEdgesTest {
  private static final int MAX = Integer.MAX_VALUE;
  private static final int MIN = Integer.MIN_VALUE;

  private final Check c = new Check();

  public static void main(String[] args) {
    ReadingEdgesTest test = new ReadingEdgesTest();
    test.readNone();
    test.readBlanks();
    test.readWordsThatGiveNothing();
    test.readHyphens();
    test.readManyLines();
    test.readFullLines();
    test.readFourThousand();
    test.readWrongPlaces();
    test.readWrongBehindCapital();
    test.readByNoRows();
    test.letter();
    test.failed();
    test.readingsOfNoCells();
    test.readingsMost();
    test.readingsFifty();
    test.readingsHundredCells();
    test.readingsAllFailed();
    test.readingsTurns();
    test.readingsBehindManyThatEndNowhere();
    test.readingsStay();
    test.judgeFewRows();
    test.judgeHyphens();
    test.judgeJoined();
    test.parts();
    test.unreadableOneLetter();
    test.unreadableMost();
    test.unreadableFiveThousand();
    test.unreadableLeavesRead();
    test.savedSmall();
    test.savedTooMany();
    test.c.end("ReadingEdgesTest");
  }

  /** a to e have the CELLS 1 to 5. */
  private static DotPress press() {
    DotPress x = new DotPress();
    Check.plain(x, "abcde");
    return x;
  }

  private void reads(DotPress x, int t, int from, int n, String due) {
    c.done(x, "read for [" + due + "]", x.read(t, from, n), due.length());
    c.same("READ", Check.bytesRead(x), due);
  }

  private void wrong(DotPress x, int t, int from, int n, int place) {
    c.due("read", x.read(t, from, n), -1);
    c.due("status()", x.status(), 9);
    c.due("place()", x.place(), place);
    c.due("READ is empty", x.letter(0), -1);
  }

  // ---- promises 27 and 28

  private void readNone() {
    c.promise(27, "no LINES are READ");
    DotPress x = press();
    for (int from : new int[] {0, 1, -1, MAX, MIN}) {
      reads(x, 0, from, 0, "");
      c.refused(x, "one from " + from, x.read(0, from, 1), 2);
      c.refused(x, "MAX from " + from, x.read(0, from, MAX), 2);
      c.refused(x, "-1 from " + from, x.read(0, from, -1), 5);
      c.refused(x, "MIN from " + from, x.read(0, from, MIN), 5);
    }
    Check.text(x, "a\nb");
    x.set(0);
    reads(x, 0, 0, 1, "a");
    reads(x, 0, 1, 1, "b");
    reads(x, 0, 0, 2, "a b");
    c.refused(x, "three", x.read(0, 0, 3), 2);
    c.same("READ stays", Check.bytesRead(x), "a b");
    reads(x, 0, 9, 0, "");
    c.refused(x, "READ is empty", x.letter(0), 2);
    reads(x, 0, 0, 2, "a b");
    x.lose(0);
    reads(x, 0, 0, 0, "");
    reads(x, 0, 1, 1, "b");
    c.refused(x, "lacking", x.read(0, 0, 1), 1);
    c.refused(x, "lacking, ahead of one that is not there", x.read(0, 0, 3), 1);
    x.lose(1);
    x.copyLines(0, 0, 0);
    c.refused(x, "both", x.read(0, 0, 2), 1);
    c.refused(x, "not there, ahead of a lacking one", x.read(0, -1, 2), 2);
  }

  private void readBlanks() {
    c.promise(27, "BLANKS in front, between and at the end");
    DotPress x = press();
    Check.text(x, "\na\n\n");
    x.set(0);
    c.due("LINES", x.lines(), 3);
    reads(x, 0, 0, 1, "");
    reads(x, 0, 0, 3, "a");
    x.cut(0, 1);
    reads(x, 0, 0, 1, "");
    x.cut(0, 200);
    reads(x, 0, 0, 1, "");
    x.cut(1, 200);
    x.cut(2, 200);
    reads(x, 0, 0, 3, "a");
    x.copyRow(1, 0, 2, 199, 1);
    reads(x, 0, 0, 3, "a a");
    x.copyRow(1, 0, 0, 0, 1);
    reads(x, 0, 0, 3, "a a a");
    Check.lay(x, new int[] {0, 1, 0, 0, 0, 2, 0});
    reads(x, 0, 0, 1, "a b");
  }

  private void readWordsThatGiveNothing() {
    c.promise(27, "a byte 32 between what each gives, be it nothing");
    DotPress x = press();
    x.table(2, 8, 0);
    Check.indicator(x, 1, 1, 60);
    Check.lay(x, new int[] {60});
    reads(x, 1, 0, 1, "");
    Check.lay(x, new int[] {60, 60, 60});
    reads(x, 1, 0, 1, "");
    Check.lay(x, new int[] {60, 0, 60});
    reads(x, 1, 0, 1, " ");
    Check.lay(x, new int[] {60, 0, 60, 0, 60});
    reads(x, 1, 0, 1, "  ");
    Check.lay(x, new int[] {0, 60, 0, 0, 1, 0, 60, 0});
    reads(x, 1, 0, 1, " a ");
    c.done(x, "its first", x.letter(0), 32);
    c.done(x, "its last", x.letter(2), 32);
    c.refused(x, "none behind", x.letter(3), 2);
    Check.lay(x, new int[] {60}, new int[] {60, 1}, new int[] {60});
    reads(x, 1, 0, 3, " a ");
  }

  private void readHyphens() {
    c.promise(27, "one whose last CELL is the HYPHEN");
    DotPress x = press();
    Check.lay(x, new int[] {36});
    reads(x, 0, 0, 1, "");
    reads(x, 0, 0, 2, "");
    Check.lay(x, new int[] {1, 36}, new int[] {2});
    reads(x, 0, 0, 1, "a");
    reads(x, 0, 0, 2, "ab");
    reads(x, 0, 0, 3, "ab");
    // the next one is empty: behind it there is a BLANK
    Check.lay(x, new int[] {1, 36}, new int[] {}, new int[] {2});
    reads(x, 0, 0, 2, "a");
    reads(x, 0, 0, 3, "a b");
    Check.lay(x, new int[] {1, 36}, new int[] {36}, new int[] {36}, new int[] {2});
    reads(x, 0, 0, 4, "ab");
    // one is left off alone, and one ahead of others is none
    Check.lay(x, new int[] {1, 36, 36}, new int[] {36, 1}, new int[] {1, 0, 36}, new int[] {1, 36, 0});
    wrong(x, 0, 0, 1, 1);
    wrong(x, 0, 1, 1, 1000);
    reads(x, 0, 2, 1, "a");
    wrong(x, 0, 3, 1, 3001);
    // as it is now
    x.measure(9, 9, 1);
    Check.lay(x, new int[] {2, 1}, new int[] {1}, new int[] {3});
    reads(x, 0, 0, 3, "bc");
    x.measure(9, 9, 255);
    reads(x, 0, 0, 3, "ba a c");
    Check.lay(x, new int[] {2, 255}, new int[] {3});
    reads(x, 0, 0, 2, "bc");
  }

  private void readManyLines() {
    c.promise(27, "200 LINES");
    DotPress x = press();
    Check.text(x, "a\n".repeat(199) + "e");
    x.set(0);
    c.done(x, "all", x.read(0, 0, 200), 399);
    c.done(x, "the last", x.letter(398), 'e');
    c.refused(x, "none behind", x.letter(399), 2);
    c.refused(x, "201", x.read(0, 0, 201), 2);
    c.refused(x, "200 from 1 on", x.read(0, 1, 200), 2);
    c.due("READ stays", x.letter(398), 'e');
    c.done(x, "the last LINE", x.read(0, 199, 1), 1);
    c.done(x, "the last byte", x.letter(0), 'e');
    x.lose(199);
    c.refused(x, "the last is lacking", x.read(0, 0, 200), 1);
    c.refused(x, "and 201", x.read(0, 0, 201), 1);
    c.done(x, "those ahead of it", x.read(0, 0, 199), 397);
  }

  private void readFullLines() {
    c.promise(27, "200 LINES of 200 CELLS");
    DotPress x = press();
    x.table(0, 8, 0);
    x.table(2, 8, 1);
    Check.indicator(x, 2, 1, 1);
    Check.rule(x, 2, 0, "d", 4);
    Check.text(x, "a".repeat(200) + "\n".repeat(199) + "d");
    c.done(x, "200 LINES", x.set(0), 200);
    for (int l = 1; l < 199; l += 9) {
      x.copyLines(0, l, 9);
    }
    x.cut(199, 200);
    x.copyRow(199, 0, 199, 199, 1);
    x.copyRow(0, 0, 199, 0, 199);
    c.done(x, "the last CELL", x.cell(199, 199), 4);
    c.done(x, "the last LINE", x.read(2, 199, 1), 1);
    // NUMBERS give nothing, and each LINE is a WORD
    c.done(x, "all", x.read(2, 0, 200), 200);
    c.done(x, "the last byte", x.letter(199), 'd');
    c.done(x, "the one ahead of it", x.letter(198), 32);
    c.refused(x, "and one more LINE", x.read(2, 0, 201), 2);
    x.undo();
    wrong(x, 2, 0, 200, 199199);
  }

  private void readFourThousand() {
    c.promise(27, "more than 4000 bytes");
    DotPress x = press();
    x.table(0, 8, 0);
    Check.rule(x, 1, 0, "aaaaaaaz", 1);
    Check.rule(x, 1, 0, "y", 2);
    Check.text(x, "a".repeat(200) + "\n" + "a".repeat(99) + "bbbbbbb\n" + "bb\nbb");
    x.set(0);
    c.due("LINES", x.lines(), 4);
    x.copyLines(1, 2, 1);
    x.copyLines(0, 1, 1);
    x.cut(2, 105);
    // 400 and 99 times 8, 6, and two BLANKS
    c.done(x, "4000 bytes", x.read(1, 0, 3), 4000);
    c.done(x, "the last", x.letter(3999), 'y');
    c.refused(x, "none behind", x.letter(4000), 2);
    c.done(x, "the first", x.letter(0), 'a');
    c.done(x, "the BLANK", x.letter(1600), 32);
    x.cut(2, 106);
    c.done(x, "a BLANK at the end", x.read(1, 0, 3), 4000);
    x.copyRow(2, 104, 2, 105, 1);
    c.refused(x, "4001 bytes", x.read(1, 0, 3), 6);
    c.refused(x, "READ is empty", x.letter(0), 2);
    c.refused(x, "4004 bytes", x.read(1, 0, 4), 6);
    c.done(x, "others", x.read(1, 3, 1), 2);
    c.due("READ", x.letter(1), 'y');
    // 9 stands ahead of 6, wherever it is
    Check.rule(x, 0, 0, "f", 6);
    x.measure(100, 9, 36);
    Check.text(x, "a".repeat(200) + "\n" + "a".repeat(106) + "\n\nf");
    x.set(0);
    x.copyLines(1, 2, 1);
    x.copyLines(0, 1, 1);
    c.refused(x, "too many", x.read(1, 0, 3), 6);
    wrong(x, 1, 0, 4, 3000);
  }

  private void readWrongPlaces() {
    c.promise(27, "the LINE times 1000 and the CELL");
    DotPress x = press();
    Check.rule(x, 0, 0, "x", 9);
    x.table(0, 8, 0);
    Check.rule(x, 1, 0, "a", 1);
    Check.rule(x, 1, 0, "b", 2, 2);
    Check.text(x, "xa\n" + "\n".repeat(198) + "a".repeat(199) + "x");
    x.set(0);
    wrong(x, 1, 0, 1, 0);
    wrong(x, 1, 1, 199, 199199);
    wrong(x, 1, 199, 1, 199199);
    x.cut(199, 199);
    c.done(x, "all but that", x.read(1, 1, 199), 199);
    wrong(x, 1, 0, 200, 0);
    // a ROW that has not all of its CELLS there
    Check.text(x, "bb\nb\nab\nbb b");
    x.set(0);
    reads(x, 1, 0, 1, "b");
    wrong(x, 1, 1, 1, 1000);
    wrong(x, 1, 2, 1, 2001);
    wrong(x, 1, 3, 1, 3003);
    wrong(x, 1, 0, 4, 1000);
    // two LINES are WRONG: the first one is told
    wrong(x, 1, 1, 3, 1000);
  }

  private void readWrongBehindCapital() {
    c.promise(27, "WRONG behind a CAPITAL");
    DotPress x = new DotPress();
    Check.plain(x, "az`{A");
    Check.indicator(x, 0, 0, 9);
    Check.rule(x, 0, 0, "a1", 6);
    Check.rule(x, 0, 0, "1a", 7);
    Check.text(x, "A");
    // a and z at the edges of what may follow it
    Check.lay(x, new int[] {9, 1, 9, 2, 9, 6});
    reads(x, 0, 0, 1, "AZA1");
    for (int cell : new int[] {3, 4, 5, 7, 9, 50}) {
      Check.lay(x, new int[] {1, 9, cell});
      wrong(x, 0, 0, 1, 2);
    }
    // at the WORD's end: its last CELL and 1
    Check.lay(x, new int[] {9});
    wrong(x, 0, 0, 1, 1);
    wrong(x, 0, 0, 2, 1);
    Check.lay(x, new int[] {1, 9, 0, 1});
    wrong(x, 0, 0, 1, 2);
    Check.lay(x, new int[] {1}, new int[] {1, 9, 36}, new int[] {0, 1}, new int[] {1});
    wrong(x, 0, 0, 2, 1002);
    wrong(x, 0, 0, 3, 1002);
    wrong(x, 0, 0, 4, 1002);
    Check.lay(x, new int[] {1, 9, 36}, new int[] {}, new int[] {1});
    wrong(x, 0, 0, 3, 2);
    // it goes over the end of a LINE
    Check.lay(x, new int[] {1, 9, 36}, new int[] {1}, new int[] {9, 36}, new int[] {5});
    reads(x, 0, 0, 2, "aA");
    wrong(x, 0, 2, 2, 3000);
  }

  private void readByNoRows() {
    c.promise(27, "a TABLE without ROWS");
    DotPress x = press();
    x.table(0, 8, 0);
    x.join(1, 1);
    Check.text(x, "\n^a");
    x.set(0);
    for (int t = 1; t <= 2; t++) {
      reads(x, t, 0, 1, "");
      wrong(x, t, 1, 1, 1015);
      wrong(x, t, 0, 2, 1015);
    }
  }

  private void letter() {
    c.promise(28, "letter");
    DotPress x = press();
    for (int i : new int[] {-1, 0, 1, MAX, MIN}) {
      c.refused(x, "letter(" + i + ") of none", x.letter(i), 2);
    }
    Check.text(x, "a\nbc");
    x.set(0);
    x.read(0, 0, 1);
    c.done(x, "the only one", x.letter(0), 'a');
    for (int i : new int[] {-1, 1, MAX, MIN}) {
      c.refused(x, "letter(" + i + ") of one", x.letter(i), 2);
    }
    x.read(0, 0, 2);
    c.done(x, "the last", x.letter(3), 'c');
    c.refused(x, "none behind", x.letter(4), 2);
  }

  // ---- promises 29 to 32

  private void failed() {
    c.promise(29, "failed");
    DotPress x = press();
    for (int d : new int[] {-1, 8, 9, 31, 32, 40, MAX, MIN}) {
      c.refused(x, "dot " + d, x.failed(d, true), 6);
      c.refused(x, "dot " + d, x.failed(d, false), 6);
    }
    for (int d = 0; d <= 7; d++) {
      c.done(x, "dot " + d, x.failed(d, true), d + 1);
      c.done(x, "dot " + d + " again", x.failed(d, true), d + 1);
    }
    c.refused(x, "dot 8", x.failed(8, false), 6);
    for (int d = 0; d <= 7; d++) {
      c.done(x, "dot " + d + " not", x.failed(d, false), 7 - d);
      c.done(x, "dot " + d + " not, again", x.failed(d, false), 7 - d);
    }
  }

  private void given(DotPress x, int t, int l, int most, int more, String... due) {
    c.done(x, "readings", x.readings(t, l, most), due.length);
    c.due("more()", x.more(), more);
    for (int k = 0; k < due.length; k++) {
      c.same("reading " + k, Check.reading(x, k), due[k]);
      c.refused(x, "behind its last byte", x.reading(k, due[k].length()), 2);
    }
    c.refused(x, "beyond the last", x.reading(due.length, 0), 2);
  }

  private void readingsOfNoCells() {
    c.promise(30, "a LINE without CELLS, a TABLE without ROWS");
    DotPress x = press();
    x.table(0, 8, 0);
    Check.text(x, "\na");
    x.set(0);
    given(x, 0, 0, 1, 0, "");
    given(x, 1, 0, 1, 0, "");
    given(x, 0, 1, 1, 0, "a");
    given(x, 1, 1, 1, 0);
    x.cut(0, 1);
    given(x, 0, 0, 1, 0, " ");
    given(x, 1, 0, 50, 0, " ");
    x.failed(0, true);
    given(x, 1, 1, 50, 0, " ");
    given(x, 0, 1, 50, 0, " ", "a");
    given(x, 0, 1, 1, 1, " ");
  }

  private void readingsMost() {
    c.promise(30, "most is 1 to 50");
    DotPress x = press();
    Check.text(x, "a");
    x.set(0);
    for (int most : new int[] {0, 51, -1, MAX, MIN}) {
      c.refused(x, "most " + most, x.readings(0, 0, most), 6);
      c.refused(x, "most " + most + ", ahead of 3", x.readings(1, 0, most), 6);
      c.refused(x, "most " + most + ", ahead of 2", x.readings(0, 1, most), 6);
    }
    c.refused(x, "none was made", x.reading(0, 0), 2);
    c.done(x, "most 1", x.readings(0, 0, 1), 1);
    c.done(x, "most 50", x.readings(0, 0, 50), 1);
    for (int l : new int[] {-1, 1, MAX, MIN}) {
      c.refused(x, "LINE " + l, x.readings(0, l, 1), 2);
      c.refused(x, "LINE " + l + ", 3 ahead of it", x.readings(1, l, 1), 3);
    }
    x.cut(0, 101);
    c.refused(x, "3 ahead of too many CELLS", x.readings(1, 0, 1), 3);
    c.refused(x, "too many CELLS", x.readings(0, 0, 1), 6);
    x.lose(0);
    c.refused(x, "1 ahead of too many CELLS", x.readings(0, 0, 1), 1);
    c.refused(x, "3 ahead of 1", x.readings(1, 0, 1), 3);
    c.refused(x, "most ahead of 1", x.readings(0, 0, 51), 6);
  }

  private void readingsFifty() {
    c.promise(30, "as many as most, and one more");
    DotPress x = new DotPress();
    x.table(0, 8, 0);
    for (int i = 0; i < 50; i++) {
      x.feed((33 + i) << 24 | 1 << 16, 0, 0, 0, 0);
      x.end(2);
      x.rule(0, 0, 1);
    }
    Check.text(x, "!");
    x.set(0);
    c.done(x, "50 of 50", x.readings(0, 0, 50), 50);
    c.promise(31, "more");
    c.due("no others", x.more(), 0);
    c.promise(32, "reading");
    c.done(x, "the first", x.reading(0, 0), 33);
    c.done(x, "the last", x.reading(49, 0), 82);
    c.refused(x, "none behind", x.reading(50, 0), 2);
    c.done(x, "49 of 50", x.readings(0, 0, 49), 49);
    c.due("there is another", x.more(), 1);
    c.refused(x, "none behind", x.reading(49, 0), 2);
    Check.rule(x, 0, 0, "}", 1);
    c.done(x, "50 of 51", x.readings(0, 0, 50), 50);
    c.due("there is another", x.more(), 1);
    c.done(x, "the last", x.reading(49, 0), 82);
    c.refused(x, "none behind", x.reading(50, 0), 2);
    c.done(x, "1 of 51", x.readings(0, 0, 1), 1);
    c.due("there are others", x.more(), 1);
    x.cut(0, 0);
    c.done(x, "1 of 1", x.readings(0, 0, 1), 1);
    c.due("no others", x.more(), 0);
    for (int i : new int[] {-1, 0, 1, MAX, MIN}) {
      c.refused(x, "it has no byte " + i, x.reading(0, i), 2);
      c.refused(x, "there is no reading", x.reading(i == 0 ? 1 : i, 0), 2);
    }
  }

  private void readingsHundredCells() {
    c.promise(30, "more than 100 CELLS");
    DotPress x = new DotPress();
    Check.plain(x, "a");
    x.table(0, 8, 0);
    Check.rule(x, 1, 0, "abcdefgz", 1);
    Check.text(x, "a".repeat(101));
    x.set(0);
    c.refused(x, "101", x.readings(1, 0, 50), 6);
    x.cut(0, 100);
    c.done(x, "100", x.readings(1, 0, 50), 1);
    c.due("more()", x.more(), 0);
    c.done(x, "the last byte", x.reading(0, 799), 'z');
    c.refused(x, "none behind", x.reading(0, 800), 2);
    // twice as many ways at each CELL
    x.failed(0, true);
    c.done(x, "50 of many", x.readings(1, 0, 50), 50);
    c.due("more()", x.more(), 1);
    c.done(x, "the first is of BLANKS", x.reading(0, 99), 32);
    c.refused(x, "a hundred", x.reading(0, 100), 2);
    c.done(x, "the next ends with the ROW", x.reading(1, 99), 'a');
    c.done(x, "the next ends with the ROW", x.reading(1, 106), 'z');
    c.refused(x, "99 and 8", x.reading(1, 107), 2);
    x.cut(0, 200);
    c.refused(x, "200", x.readings(1, 0, 50), 6);
    c.due("those before stay", x.reading(1, 106), 'z');
    c.due("more()", x.more(), 1);
  }

  private void readingsAllFailed() {
    c.promise(30, "all dots have FAILED");
    DotPress x = new DotPress();
    x.table(0, 8, 0);
    Check.rule(x, 0, 0, "a", 255);
    Check.rule(x, 0, 0, "b", 1, 2);
    Check.text(x, "ab");
    x.set(0);
    x.cut(0, 2);
    for (int d = 0; d < 8; d++) {
      x.failed(d, true);
    }
    given(x, 0, 0, 50, 0, "  ", " a", "a ", "aa", "b");
    x.cut(0, 1);
    given(x, 0, 0, 50, 0, " ", "a");
    x.cut(0, 0);
    given(x, 0, 0, 50, 0, "");
    // each dot alone
    x.cut(0, 1);
    for (int d = 0; d < 8; d++) {
      x.failed(d, false);
      given(x, 0, 0, 50, 0, " ");
      x.failed(d, true);
    }
    for (int d = 0; d < 8; d++) {
      DotPress y = new DotPress();
      y.table(0, 8, 0);
      Check.rule(y, 0, 0, "a", 1 << d);
      Check.text(y, "a");
      y.set(0);
      given(y, 0, 0, 50, 0, "a");
      y.failed(d, true);
      given(y, 0, 0, 50, 0, " ", "a");
      y.cut(0, 0);
      y.cut(0, 1);
      given(y, 0, 0, 50, 0, " ", "a");
      y.failed(d, false);
      y.failed(7 - d, true);
      given(y, 0, 0, 50, 0, " ");
    }
  }

  private void readingsTurns() {
    c.promise(30, "a CAPITAL, CHANGE and BACK at the edges");
    DotPress x = new DotPress();
    x.table(0, 8, 0);
    Check.rule(x, 0, 0, "z", 1);
    Check.rule(x, 0, 0, "{", 2);
    Check.indicator(x, 0, 0, 3);
    x.table(0, 8, 0);
    int j = x.join(0, 1);
    Check.indicator(x, j, 2, 4);
    Check.indicator(x, j, 3, 5);
    int[][] none = {{3}, {3, 2}, {3, 3, 1}, {3, 0}, {1, 3}, {5}, {4, 4}, {4, 5, 5}, {4, 0, 5},
      {3, 4}, {4, 1}};
    for (int[] cells : none) {
      Check.lay(x, cells);
      given(x, j, 0, 50, 0);
    }
    Check.lay(x, new int[] {3, 1});
    given(x, j, 0, 50, 0, "Z");
    Check.lay(x, new int[] {4, 0, 4, 5, 4});
    given(x, j, 0, 50, 0, "< <><");
    Check.lay(x, new int[] {0, 3, 1, 0});
    given(x, j, 0, 50, 0, " Z ");
    // what a longer LINE gave before is nothing to a shorter one
    Check.indicator(x, 1, 0, 6);
    Check.rule(x, 1, 0, "y", 7);
    Check.lay(x, new int[] {4, 6, 7});
    given(x, j, 0, 50, 0, "<Y");
    x.cut(0, 2);
    given(x, j, 0, 50, 0);
    x.cut(0, 1);
    given(x, j, 0, 50, 0, "<");
  }

  /** More rows than can be tried begin well, come ahead of the only readings, and do not end. */
  private void readingsBehindManyThatEndNowhere() {
    c.promise(30, "of all rows, however many are none");
    DotPress x = new DotPress();
    x.table(0, 8, 0);
    Check.rule(x, 0, 0, "a", 1);
    Check.rule(x, 0, 0, "b", 2);
    Check.rule(x, 0, 0, "c", 5);
    x.table(0, 8, 0);
    Check.rule(x, 1, 0, "d", 1);
    Check.rule(x, 1, 0, "x", 8);
    int j = x.join(0, 1);
    Check.indicator(x, j, 2, 1, 5);
    Check.text(x, "<" + "d".repeat(90) + "x");
    x.set(j);
    x.failed(0, true);
    x.failed(1, true);
    String reading = "<" + "d".repeat(90) + "x";
    given(x, j, 0, 50, 0, reading);
    // with an end of its own the SECOND part is no longer all alike
    Check.indicator(x, j, 3, 8);
    given(x, j, 0, 1, 1, reading);
    x.drop(j);
    given(x, 0, 0, 50, 0);
  }

  private void readingsStay() {
    c.promise(32, "of the latest readings() that was not refused");
    DotPress x = press();
    c.due("more() ahead of all", x.more(), 0);
    c.refused(x, "none ahead of all", x.reading(0, 0), 2);
    Check.text(x, "ab\nb");
    x.set(0);
    x.failed(0, true);
    given(x, 0, 0, 1, 1, " b");
    x.readings(0, 2, 50);
    x.readings(0, 0, 0);
    x.readings(9, 0, 1);
    c.due("more() stays", x.more(), 1);
    c.due("more() leaves STATUS", x.status(), 3);
    c.same("reading 0 stays", Check.reading(x, 0), " b");
    // what comes behind does not change it
    x.failed(0, false);
    x.cut(0, 0);
    x.read(0, 1, 1);
    x.judge(0);
    x.drop(0);
    c.due("more() stays", x.more(), 1);
    c.same("reading 0 stays", Check.reading(x, 0), " b");
    c.refused(x, "and no other is there", x.reading(1, 0), 2);
    x.undo();
    Check.text(x, "");
    x.set(0);
    c.same("reading 0 stays", Check.reading(x, 0), " b");
  }

  // ---- promises 33 and 34

  private void judgeFewRows() {
    c.promise(33, "few ROWS");
    DotPress x = new DotPress();
    x.table(0, 8, 0);
    c.done(x, "none", x.judge(0), 1);
    Check.rule(x, 0, 0, "a", 1, 2, 3, 4);
    c.done(x, "one", x.judge(0), 1);
    int[][] at = {{1}, {1, 2}, {1, 2, 3}, {1, 2, 3, 4}};
    for (int[] cells : at) {
      Check.rule(x, 0, 0, "b", cells);
      c.done(x, "at its begin", x.judge(0), 0);
      x.undo();
      Check.indicator(x, 0, 0, cells);
      c.done(x, "a CAPITAL at its begin", x.judge(0), 0);
      x.undo();
    }
    int[][] not = {{2}, {4}, {1, 3}, {1, 2, 4}, {1, 2, 3, 5}, {2, 3, 4}};
    for (int[] cells : not) {
      Check.rule(x, 0, 0, "b", cells);
      c.done(x, "not at its begin", x.judge(0), 1);
      x.undo();
    }
    x.table(1, 8, 0);
    c.done(x, "the BASE's ROWS", x.judge(1), 1);
    Check.rule(x, 1, 0, "a", 1, 2, 3);
    c.done(x, "with its own", x.judge(1), 0);
    c.done(x, "the BASE is as it was", x.judge(0), 1);
    x.table(3, 8, 0);
    c.done(x, "Short", x.judge(2), 0);
    x.table(2, 8, 2);
    c.done(x, "under a Short", x.judge(3), 0);
  }

  private void judgeHyphens() {
    c.promise(33, "no ROW ends with the HYPHEN");
    for (int hyphen : new int[] {1, 36, 255}) {
      DotPress x = new DotPress();
      x.table(2, 8, x.table(0, 8, 0));
      x.measure(9, 9, hyphen);
      Check.rule(x, 0, 0, "a", hyphen);
      c.done(x, "alone", x.judge(0), 0);
      c.done(x, "in the BASE", x.judge(1), 0);
      x.undo();
      Check.rule(x, 0, 0, "a", 2, 2, 2, hyphen);
      c.done(x, "at the end", x.judge(0), 0);
      x.undo();
      Check.rule(x, 0, 0, "a", hyphen, hyphen, hyphen, 2);
      c.done(x, "not at the end", x.judge(0), 1);
      Check.indicator(x, 1, 0, 3, hyphen);
      c.done(x, "CAPITAL", x.judge(1), 0);
      x.undo();
      Check.indicator(x, 1, 1, 3, hyphen);
      c.done(x, "NUMBER", x.judge(1), 0);
      c.done(x, "the BASE has none", x.judge(0), 1);
      x.measure(9, 9, hyphen == 1 ? 9 : hyphen - 1);
      c.done(x, "another HYPHEN", x.judge(1), 1);
    }
  }

  private void judgeJoined() {
    c.promise(33, "of a Joined");
    DotPress x = new DotPress();
    x.table(0, 8, 0);
    x.table(0, 8, 0);
    int j = x.join(0, 1);
    c.done(x, "no ROWS at all", x.judge(j), 1);
    Check.rule(x, 0, 0, "a", 1);
    Check.rule(x, 1, 0, "a", 1);
    c.done(x, "like ones apart", x.judge(j), 1);
    Check.indicator(x, j, 2, 1, 2);
    c.done(x, "CHANGE with FIRST", x.judge(j), 0);
    Check.indicator(x, j, 2, 2);
    Check.indicator(x, j, 3, 2);
    c.done(x, "CHANGE and BACK apart", x.judge(j), 1);
    Check.indicator(x, j, 3, 1, 2);
    c.done(x, "BACK with SECOND", x.judge(j), 0);
    Check.indicator(x, j, 3, 3, 36);
    c.done(x, "BACK ends with the HYPHEN", x.judge(j), 0);
    x.indicator(j, 3);
    Check.indicator(x, j, 2, 36);
    c.done(x, "CHANGE ends with the HYPHEN", x.judge(j), 0);
    x.indicator(j, 2);
    Check.rule(x, 1, 0, "b", 1, 1);
    c.done(x, "in SECOND", x.judge(j), 0);
    c.done(x, "SECOND twice", x.judge(x.join(1, 0)), 0);
    c.done(x, "FIRST alone", x.judge(x.join(0, 0)), 1);
    x.table(3, 8, 0);
    c.done(x, "FIRST is Short", x.judge(x.join(5, 0)), 0);
    c.done(x, "SECOND is Short", x.judge(x.join(0, 5)), 0);
    c.done(x, "SECOND is over a Short", x.judge(x.join(0, x.table(1, 8, 5))), 0);
  }

  private void parts() {
    c.promise(34, "parts");
    DotPress x = new DotPress();
    x.table(0, 8, 0);
    x.table(4, 8, 0);
    c.refused(x, "no ROWS", x.parts(0, 0, 0), 2);
    int[][] rows = {{1, 2, 3, 4}, {1}, {1, 2}, {1, 2, 3}, {1, 2, 3, 4}, {1, 2, 3, 5}, {1, 3}, {2}};
    int[] withFirst = {-5, -2, -3, -4, -5, 3, 1, 0};
    for (int[] cells : rows) {
      Check.rule(x, 0, 0, "a", cells);
    }
    for (int b = 0; b < rows.length; b++) {
      c.done(x, "ROW 0 and " + b, x.parts(0, 0, b), withFirst[b]);
      c.done(x, "ROW " + b + " and 0", x.parts(0, b, 0), withFirst[b]);
      c.done(x, "ROW " + b + " and itself", x.parts(0, b, b), -1 - rows[b].length);
    }
    for (int i : new int[] {-1, 8, MAX, MIN}) {
      c.refused(x, "ROW " + i, x.parts(0, i, 0), 2);
      c.refused(x, "ROW " + i, x.parts(0, 0, i), 2);
      c.refused(x, "ROW " + i, x.parts(0, i, i), 2);
      c.refused(x, "3 ahead of 2", x.parts(2, i, i), 3);
    }
    Check.indicator(x, 0, 0, 9, 9);
    c.done(x, "CAPITAL is the last", x.parts(0, 8, 8), -3);
    c.refused(x, "none behind", x.parts(0, 9, 8), 2);
    Check.rule(x, 1, 0, "a", 1);
    c.done(x, "Music", x.parts(1, 0, 0), -2);
    int j = x.join(0, 0);
    c.done(x, "a Joined: FIRST's", x.parts(j, 8, 0), 0);
    c.refused(x, "CHANGE is empty", x.parts(j, 9, 0), 2);
    Check.indicator(x, j, 2, 9);
    Check.indicator(x, j, 3, 9);
    c.done(x, "CHANGE is the last", x.parts(j, 9, 8), -2);
    c.refused(x, "BACK is none of these", x.parts(j, 10, 0), 2);
  }

  // ---- promises 35 and 36

  private void unreadableOneLetter() {
    c.promise(35, "WORDS of one LETTER, in as many lengths");
    DotPress x = new DotPress();
    x.table(0, 8, 0);
    c.done(x, "no LETTERS: no WORDS", x.unreadable(0, 6, 1), 0);
    Check.rule(x, 0, 0, "1", 1);
    for (int n = 1; n <= 6; n++) {
      c.done(x, n + " of " + n, x.unreadable(0, n, n), 0);
      c.done(x, "5000 for " + n, x.unreadable(0, n, 5000), 0);
      if (n > 1) {
        c.refused(x, n - 1 + " of " + n, x.unreadable(0, n, n - 1), 8);
      }
    }
    for (int n : new int[] {0, 7, -1, MAX, MIN}) {
      c.refused(x, "n " + n, x.unreadable(0, n, 10), 6);
      c.refused(x, "n " + n + ", ahead of 3", x.unreadable(1, n, 10), 6);
    }
    for (int most : new int[] {0, 5001, -1, MAX, MIN}) {
      c.refused(x, "most " + most, x.unreadable(0, 1, most), 6);
      c.refused(x, "most " + most + ", ahead of 3", x.unreadable(1, 1, most), 6);
    }
    for (int t : new int[] {1, -1, MAX, MIN}) {
      c.refused(x, "TABLE " + t, x.unreadable(t, 6, 5000), 3);
    }
  }

  private void unreadableMost() {
    c.promise(35, "more than most WORDS would be tried");
    DotPress x = new DotPress();
    x.table(0, 8, 0);
    Check.rule(x, 0, 0, "a", 1);
    // A and a: 2, 4, 8, 16, 32 and 64 WORDS
    int all = 0;
    for (int n = 1; n <= 6; n++) {
      all += 1 << n;
      c.done(x, "just as many for " + n, x.unreadable(0, n, all), 0);
      c.refused(x, "one less for " + n, x.unreadable(0, n, all - 1), 8);
    }
    // the last WORD of all is the one
    Check.rule(x, 0, 0, "aaaaaa", 2);
    Check.rule(x, 0, 0, "aaaaa", 2);
    x.condition(0, 2, 2);
    c.refused(x, "one less", x.unreadable(0, 6, 125), 8);
    c.done(x, "none: the first of as long ones is READ", x.unreadable(0, 6, 126), 0);
    x.condition(0, 2, 4);
    c.refused(x, "aaaaa is the 62nd", x.unreadable(0, 6, 61), 8);
    c.done(x, "aaaaa is READ as aaaaaa", x.unreadable(0, 6, 62), 5);
    c.same("READ", Check.bytesRead(x), "aaaaa");
    x.undo();
    x.undo();
    x.undo();
    x.undo();
    Check.rule(x, 0, 0, "aaaaaa", 1, 2);
    Check.rule(x, 0, 0, "b", 2);
    x.condition(0, 2, 2);
    c.due("ab can't be set", x.unreadable(0, 2, 20), 0);
    x.undo();
    c.done(x, "ab is READ as aaaaaa", x.unreadable(0, 2, 20), 2);
    c.same("READ", Check.bytesRead(x), "ab");
  }

  private void unreadableFiveThousand() {
    c.promise(35, "5000 WORDS");
    DotPress x = new DotPress();
    Check.plain(x, "1234");
    // 4, 16, 64, 256, 1024 and 4096 WORDS
    c.done(x, "1364 WORDS", x.unreadable(0, 5, 1364), 0);
    int finds = x.finds(0);
    c.due("FIND for each LETTER", finds, 4 + 32 + 192 + 1024 + 5120);
    c.refused(x, "one less", x.unreadable(0, 5, 1363), 8);
    c.due("FIND for all but one", x.finds(0), 2 * finds - 5);
    c.refused(x, "5460 WORDS", x.unreadable(0, 6, 5000), 8);
    c.due("FIND for 5000 of them", x.finds(0), 3 * finds - 5 + 3636 * 6);
    c.refused(x, "most 5001", x.unreadable(0, 6, 5001), 6);
    c.due("FIND was not run", x.finds(0), 3 * finds - 5 + 3636 * 6);
  }

  private void unreadableLeavesRead() {
    c.promise(35, "READ is as it was, if there is none");
    DotPress x = press();
    Check.text(x, "abcde");
    x.set(0);
    reads(x, 0, 0, 1, "abcde");
    c.done(x, "none", x.unreadable(0, 1, 10), 0);
    c.refused(x, "SPENT", x.unreadable(0, 1, 9), 8);
    c.refused(x, "no TABLE", x.unreadable(1, 1, 9), 3);
    c.same("READ stays", Check.bytesRead(x), "abcde");
    Check.rule(x, 0, 0, "!", 1);
    c.done(x, "! is READ as a", x.unreadable(0, 6, 1), 1);
    c.same("READ", Check.bytesRead(x), "!");
    c.refused(x, "one byte", x.letter(1), 2);
    // READ by its HYPHEN as a WORD, not as a LINE
    x.undo();
    x.measure(9, 9, 1);
    c.done(x, "a is the HYPHEN", x.unreadable(0, 1, 10), 0);
  }

  private void savedSmall() {
    c.promise(36, "saved");
    DotPress x = press();
    x.table(1, 8, 0);
    Check.rule(x, 1, 0, "ab", 9);
    c.done(x, "an empty TEXT", x.saved(0, 1), 0);
    for (String text : new String[] {" ", "~", "\n", "^", "^ ~\n"}) {
      Check.text(x, text);
      c.done(x, "no WORDS", x.saved(0, 1), 0);
    }
    c.due("FIND was not run", x.finds(0), 0);
    Check.text(x, "ab");
    c.done(x, "1", x.saved(0, 1), 1);
    c.done(x, "-1, and it is not refused", x.saved(1, 0), -1);
    c.done(x, "itself", x.saved(1, 1), 0);
    Check.text(x, "ab".repeat(100));
    c.done(x, "200 CELLS", x.saved(0, 1), 100);
    Check.text(x, "^a~b ab\nab~");
    c.done(x, "three WORDS", x.saved(0, 1), 3);
    for (int t : new int[] {2, -1, MAX, MIN}) {
      c.refused(x, "a is " + t, x.saved(t, 0), 3);
      c.refused(x, "b is " + t, x.saved(0, t), 3);
      c.refused(x, "both are " + t, x.saved(t, t), 3);
    }
  }

  private void savedTooMany() {
    c.promise(36, "7 and 6, of a, then of b");
    DotPress x = press();
    x.table(0, 8, 0);
    Check.rule(x, 1, 0, "a", 1, 1);
    String[] texts = {"a".repeat(100), "a".repeat(101), "b", "a".repeat(101) + " b", "b " + "a".repeat(101),
      "a".repeat(500)};
    int[] status = {0, 6, 7, 6, 7, 6};
    for (int i = 0; i < texts.length; i++) {
      Check.text(x, texts[i]);
      c.due("by a", x.saved(1, 0), i == 0 ? 100 : 0);
      c.due("status()", x.status(), status[i]);
      c.due("place()", x.place(), status[i] == 7 ? 0 : -1);
      c.due("by b", x.saved(0, 1), i == 0 ? -100 : 0);
      c.due("status()", x.status(), status[i]);
      c.due("place()", x.place(), status[i] == 7 ? 0 : -1);
    }
    // a is looked at, all of TEXT, ahead of b
    DotPress y = press();
    y.table(0, 8, 0);
    Check.rule(y, 1, 0, "x", 1);
    Check.text(y, "x a");
    c.due("a is UNKNOWN by b, x by a", y.saved(0, 1), 0);
    c.due("status()", y.status(), 7);
    c.due("place()", y.place(), 0);
    c.due("a is UNKNOWN by a", y.saved(1, 0), 0);
    c.due("place()", y.place(), 2);
    c.due("finds(0)", y.finds(0), 1 + 2);
    Check.text(y, "a".repeat(201) + " x");
    c.due("a has too many CELLS", y.saved(0, 1), 0);
    c.due("status()", y.status(), 6);
    c.due("UNKNOWN by a, though b has too many CELLS", y.saved(1, 0), 0);
    c.due("status()", y.status(), 7);
    c.due("place()", y.place(), 0);
  }
}
