/** Promises 27 to 36: reading CELLS back, with FAILED dots too, and judging TABLES. */
public final class ReadingTest {
  private final Check c = new Check();

  public static void main(String[] args) {
    ReadingTest test = new ReadingTest();
    test.read();
    test.readLongest();
    test.readIndicators();
    test.readJoined();
    test.readHyphens();
    test.readRefused();
    test.readWrong();
    test.readTooMuch();
    test.failed();
    test.readings();
    test.readingsOrder();
    test.readingsCapital();
    test.readingsJoined();
    test.readingsOfMany();
    test.readingsRefused();
    test.judge();
    test.judgeRefused();
    test.parts();
    test.unreadable();
    test.unreadableOrder();
    test.unreadableJoined();
    test.unreadableRefused();
    test.saved();
    test.savedRefused();
    test.c.end("ReadingTest");
  }

  private static DotPress press() {
    DotPress x = new DotPress();
    Check.plain(x, "abcde");
    return x;
  }

  private void reads(DotPress x, int t, int from, int n, String due) {
    c.done(x, "read for [" + due + "]", x.read(t, from, n), due.length());
    c.same("READ", Check.bytesRead(x), due);
  }

  private void wrong(DotPress x, int t, int from, int n, int place) {
    c.due("read", x.read(t, from, n), -1);
    c.due("status()", x.status(), 9);
    c.due("place()", x.place(), place);
    c.due("READ is empty", x.letter(0), -1);
  }

  private void read() {
    c.promise(27, "read");
    DotPress x = press();
    Check.text(x, "ab c\nde\n\na");
    x.set(0);
    reads(x, 0, 0, 1, "ab c");
    reads(x, 0, 0, 4, "ab c de a");
    reads(x, 0, 1, 2, "de");
    reads(x, 0, 2, 1, "");
    reads(x, 0, 0, 0, "");
    reads(x, 0, 99, 0, "");
    reads(x, 0, -5, 0, "");
    x.cut(1, 9);
    reads(x, 0, 1, 3, "de a");
    Check.text(x, "^a");
    x.set(0);
    reads(x, 0, 0, 1, "a");
    c.promise(28, "letter");
    c.done(x, "letter(0)", x.letter(0), 'a');
    c.refused(x, "letter(1)", x.letter(1), 2);
    c.refused(x, "letter(-1)", x.letter(-1), 2);
    c.refused(x, "letter(MAX)", x.letter(Integer.MAX_VALUE), 2);
  }

  private void readLongest() {
    c.promise(27, "the longest ROW");
    DotPress x = new DotPress();
    x.table(0, 8, 0);
    Check.rule(x, 0, 0, "a", 1);
    Check.rule(x, 0, 0, "b", 1, 2);
    Check.rule(x, 0, 0, "c", 1, 2);
    Check.rule(x, 0, 0, "d", 2);
    Check.rule(x, 0, 3, "theend", 3);
    Check.lay(x, new int[] {1, 1, 2, 2, 0, 1, 0, 2, 3, 3});
    reads(x, 0, 0, 1, "abd a dtheendtheend");
    // BASES behind the own ROWS
    x.table(1, 8, 0);
    Check.rule(x, 1, 0, "x", 2);
    Check.rule(x, 1, 0, "y", 1);
    reads(x, 1, 0, 1, "ybx y xtheendtheend");
    // Music has its own alone
    x.table(4, 8, 0);
    Check.rule(x, 2, 0, "m", 1);
    Check.rule(x, 2, 0, "n", 2);
    x.cut(0, 8);
    reads(x, 2, 0, 1, "mmnn m n");
  }

  private void readIndicators() {
    c.promise(27, "INDICATORS");
    DotPress x = press();
    x.table(2, 8, 0);
    Check.rule(x, 1, 0, "1", 1, 1);
    Check.rule(x, 1, 0, "z", 20);
    Check.rule(x, 1, 0, "{", 21);
    Check.rule(x, 1, 0, "`", 22);
    Check.indicator(x, 1, 0, 7);
    Check.indicator(x, 1, 1, 8, 8);
    Check.lay(x, new int[] {7, 1, 2, 8, 8, 1, 1, 0, 8, 8, 0, 7, 5});
    reads(x, 1, 0, 1, "Ab1  E");
    x.cut(0, 11);
    reads(x, 1, 0, 1, "Ab1 ");
    // the BASE's CAPITAL is no ROW
    Check.indicator(x, 0, 0, 9);
    Check.lay(x, new int[] {9, 1});
    reads(x, 0, 0, 1, "A");
    wrong(x, 1, 0, 1, 0);
    // a RULE of several LETTERS, the first one great
    Check.rule(x, 1, 0, "abba", 10);
    Check.lay(x, new int[] {7, 10, 10});
    reads(x, 1, 0, 1, "Abbaabba");
    Check.lay(x, new int[] {7, 20}, new int[] {7, 21}, new int[] {7, 22});
    reads(x, 1, 0, 1, "Z");
    wrong(x, 1, 1, 1, 1001);
    wrong(x, 1, 2, 1, 2001);
  }

  private void readJoined() {
    c.promise(27, "a Joined");
    DotPress x = press();
    int second = Check.plain(x, "vw");
    int j = x.join(0, second);
    Check.indicator(x, j, 2, 6);
    Check.indicator(x, j, 3, 7);
    Check.lay(x, new int[] {1, 6, 1, 7, 1, 6, 2, 0, 2, 6, 0, 6, 7});
    reads(x, j, 0, 1, "a<v>a<w b< <>");
    Check.lay(x, new int[] {1, 7});
    wrong(x, j, 0, 1, 1);
    Check.lay(x, new int[] {6, 1, 6});
    wrong(x, j, 0, 1, 2);
    // CAPITAL goes not over a CHANGE
    Check.indicator(x, 0, 0, 8);
    Check.lay(x, new int[] {8, 1, 8, 6, 1});
    wrong(x, j, 0, 1, 3);
    x.cut(0, 2);
    reads(x, j, 0, 1, "A");
  }

  private void readHyphens() {
    c.promise(27, "HYPHENS");
    DotPress x = press();
    x.measure(4, 25, 36);
    Check.text(x, "ab~cd~eab b\nc");
    x.set(0);
    c.due("LINES", x.lines(), 5);
    reads(x, 0, 0, 5, "abcdeab b c");
    reads(x, 0, 0, 1, "ab");
    reads(x, 0, 0, 2, "abcd");
    reads(x, 0, 1, 3, "cdeab b");
    // a HYPHEN elsewhere is a CELL as others are
    Check.lay(x, new int[] {1, 36, 1});
    wrong(x, 0, 0, 1, 1);
    Check.lay(x, new int[] {1, 36}, new int[] {36}, new int[] {2}, new int[] {3, 36, 36}, new int[] {1});
    reads(x, 0, 0, 3, "ab");
    wrong(x, 0, 0, 5, 3001);
    // a BLANK ahead of the HYPHEN, or behind it
    Check.lay(x, new int[] {1, 0, 36}, new int[] {2, 36}, new int[] {0, 3});
    reads(x, 0, 0, 3, "a b c");
    x.measure(4, 25, 3);
    reads(x, 0, 2, 1, "");
    // ROWS go over the end of a LINE
    Check.rule(x, 0, 0, "z", 4, 5, 6);
    Check.lay(x, new int[] {1, 4, 3}, new int[] {5, 3}, new int[] {6, 1});
    reads(x, 0, 0, 3, "aza");
    c.due("digits of a place", x.read(0, 2, 1), -1);
    c.due("place()", x.place(), 2000);
  }

  private void readRefused() {
    c.promise(27, "read refused");
    DotPress x = press();
    x.table(1, 8, 0);
    Check.text(x, "a\nb\nc");
    x.set(0);
    reads(x, 1, 0, 2, "a b");
    x.lose(1);
    c.refused(x, "3 ahead of 5", x.read(9, 0, -1), 3);
    c.refused(x, "n -1", x.read(0, 99, -1), 5);
    c.refused(x, "no such LINE", x.read(0, 3, 1), 2);
    c.refused(x, "LINE -1", x.read(0, -1, 2), 2);
    c.refused(x, "1 comes first", x.read(0, 0, 99), 1);
    c.refused(x, "2 comes first", x.read(0, 2, Integer.MAX_VALUE), 2);
    c.refused(x, "far off", x.read(0, Integer.MAX_VALUE, 2), 2);
    x.drop(0);
    c.refused(x, "what it is under", x.read(1, 0, 1), 3);
    c.same("READ stays", Check.bytesRead(x), "a b");
    // 1 and 2 are looked at ahead of 9
    x.undo();
    x.table(0, 6, 0);
    c.refused(x, "1 ahead of 9", x.read(2, 0, 2), 1);
    c.refused(x, "2 ahead of 9", x.read(2, 2, 2), 2);
    wrong(x, 2, 0, 1, 0);
  }

  private void readWrong() {
    c.promise(27, "WRONG");
    DotPress x = press();
    Check.indicator(x, 0, 0, 9, 9);
    Check.rule(x, 0, 0, "A", 10);
    Check.lay(x, new int[] {1, 2}, new int[] {0, 3, 11, 1});
    wrong(x, 0, 0, 2, 1002);
    wrong(x, 0, 1, 1, 1002);
    reads(x, 0, 0, 1, "ab");
    // behind a CAPITAL: another CAPITAL, a RULE that begins otherwise, nothing, the end
    Check.lay(x, new int[] {1, 9, 9, 9, 9, 1});
    wrong(x, 0, 0, 1, 3);
    Check.lay(x, new int[] {9, 9, 10});
    wrong(x, 0, 0, 1, 2);
    Check.lay(x, new int[] {9, 9, 50});
    wrong(x, 0, 0, 1, 2);
    Check.lay(x, new int[] {1, 9, 9}, new int[] {1});
    wrong(x, 0, 0, 2, 3);
    Check.lay(x, new int[] {1}, new int[] {9, 9, 0, 1});
    wrong(x, 0, 0, 2, 1002);
    Check.lay(x, new int[] {1}, new int[] {1, 9, 9, 36}, new int[] {10});
    wrong(x, 0, 0, 3, 2000);
    wrong(x, 0, 0, 2, 1003);
    Check.lay(x, new int[] {1}, new int[] {9, 36}, new int[] {9, 36}, new int[] {0, 1});
    wrong(x, 0, 0, 4, 2001);
    // a part of a CAPITAL is none
    Check.lay(x, new int[] {9, 1});
    wrong(x, 0, 0, 1, 0);
  }

  private void readTooMuch() {
    c.promise(27, "more than 4000 bytes");
    DotPress x = new DotPress();
    x.table(0, 8, 0);
    Check.rule(x, 0, 0, "abcdefgh", 1);
    Check.rule(x, 0, 0, "a", 2);
    x.measure(100, 50, 36);
    x.table(0, 8, 0);
    Check.rule(x, 1, 0, "x", 1);
    Check.rule(x, 1, 0, "y", 2);
    Check.rule(x, 1, 0, "z", 3);
    Check.text(x, ("x".repeat(100) + " ").repeat(4) + "x".repeat(90) + "\ny");
    x.set(1);
    c.due("LINES", x.lines(), 6);
    c.due("bytes", x.read(0, 0, 5), 490 * 8 + 4);
    c.due("bytes", x.read(0, 0, 6), 490 * 8 + 6);
    x.copyLines(0, 4, 1);
    c.refused(x, "4006 bytes", x.read(0, 0, 5), 6);
    c.due("READ is empty", x.letter(0), -1);
    x.cut(4, 99);
    c.due("3996 bytes", x.read(0, 0, 5), 499 * 8 + 4);
    Check.text(x, ("x".repeat(100) + " ").repeat(4) + "x".repeat(93) + "\nyy");
    x.set(1);
    x.copyLines(0, 4, 1);
    x.cut(4, 99);
    c.due("3999 bytes", x.read(0, 0, 6), 499 * 8 + 4 + 3);
    x.cut(5, 3);
    c.due("3999 bytes, a BLANK at the end", x.read(0, 0, 6), 3999);
    x.copyRow(5, 0, 5, 1, 2);
    c.due("4000 bytes", x.read(0, 0, 6), 4000);
    x.cut(5, 4);
    x.copyRow(5, 0, 5, 3, 1);
    c.refused(x, "4001 bytes", x.read(0, 0, 6), 6);
    c.due("READ is empty", x.letter(0), -1);
    // WRONG stands ahead of too many
    Check.text(x, ("x".repeat(100) + " ").repeat(4) + "x".repeat(90) + "\nz");
    x.set(1);
    x.copyLines(0, 4, 1);
    wrong(x, 0, 0, 6, 5000);
  }

  private void failed() {
    c.promise(29, "failed");
    DotPress x = press();
    c.done(x, "dot 0", x.failed(0, true), 1);
    c.done(x, "dot 7", x.failed(7, true), 2);
    c.done(x, "again", x.failed(7, true), 2);
    c.done(x, "not any more", x.failed(0, false), 1);
    c.done(x, "not, again", x.failed(0, false), 1);
    c.refused(x, "dot 8", x.failed(8, true), 6);
    c.refused(x, "dot -1", x.failed(-1, false), 6);
    c.refused(x, "dot 32", x.failed(32, true), 6);
    c.done(x, "as it was", x.failed(7, true), 1);
    for (int d = 0; d < 8; d++) {
      x.failed(d, true);
    }
    c.done(x, "all", x.failed(3, true), 8);
  }

  private void given(DotPress x, int t, int l, int most, int more, String... due) {
    c.promise(30, "readings");
    c.done(x, "readings", x.readings(t, l, most), due.length);
    c.promise(31, "more");
    c.due("more()", x.more(), more);
    c.promise(32, "reading");
    for (int k = 0; k < due.length; k++) {
      c.same("reading " + k, Check.reading(x, k), due[k]);
    }
    c.refused(x, "beyond the last", x.reading(due.length, 0), 2);
    c.refused(x, "reading -1", x.reading(-1, 0), 2);
    c.refused(x, "byte -1", x.reading(0, -1), 2);
  }

  private void readings() {
    DotPress x = new DotPress();
    x.table(0, 8, 0);
    Check.rule(x, 0, 0, "a", 1);
    Check.rule(x, 0, 0, "b", 1, 2);
    Check.rule(x, 0, 0, "c", 2);
    Check.lay(x, new int[] {1, 2, 0, 1});
    given(x, 0, 0, 50, 0, "ac a", "b a");
    given(x, 0, 0, 2, 0, "ac a", "b a");
    given(x, 0, 0, 1, 1, "ac a");
    x.failed(0, true);
    given(x, 0, 0, 50, 0, " c  ", " c a", " ca ", " caa", "ac  ", "ac a", "aca ", "acaa",
        "b  ", "b a", "ba ", "baa");
    x.failed(0, false);
    x.failed(1, true);
    // the dots of the LINE that have FAILED are not looked at
    given(x, 0, 0, 50, 0, "a  a", "a ca", "ac a", "acca", "b a", "bca");
    x.failed(7, true);
    x.failed(6, true);
    given(x, 0, 0, 3, 1, "a  a", "a ca", "ac a");
    // none at all, and a LINE without CELLS
    x.failed(1, false);
    Check.lay(x, new int[] {1, 3});
    given(x, 0, 0, 50, 0);
    x.cut(0, 0);
    given(x, 0, 0, 1, 0, "");
    c.refused(x, "no byte", x.reading(0, 0), 2);
    Check.lay(x, new int[] {0, 0, 0});
    given(x, 0, 0, 1, 0, "   ");
  }

  private void readingsOrder() {
    DotPress x = new DotPress();
    x.table(0, 8, 0);
    Check.rule(x, 0, 0, "z", 1);
    x.table(1, 8, 0);
    Check.rule(x, 1, 0, "long", 1, 1);
    Check.rule(x, 1, 0, "y", 1);
    Check.rule(x, 1, 0, "y", 1);
    Check.lay(x, new int[] {1, 1});
    given(x, 1, 0, 50, 0, "long", "yy", "yy", "yz", "yy", "yy", "yz", "zy", "zy", "zz");
  }

  private void readingsCapital() {
    DotPress x = new DotPress();
    x.table(0, 8, 0);
    x.table(2, 8, 0);
    Check.rule(x, 0, 0, "b", 1);
    Check.rule(x, 0, 0, "B", 2);
    Check.rule(x, 1, 0, "1", 1);
    Check.indicator(x, 1, 0, 3);
    Check.indicator(x, 1, 1, 3);
    Check.lay(x, new int[] {3, 1, 3});
    // CAPITAL ahead of b alone, and not at the end; NUMBER gives nothing
    given(x, 1, 0, 50, 0, "B", "1", "b");
    Check.lay(x, new int[] {3, 2});
    given(x, 1, 0, 50, 0, "B");
    Check.lay(x, new int[] {3, 0});
    given(x, 1, 0, 50, 0, " ");
    Check.lay(x, new int[] {3, 3, 1});
    given(x, 1, 0, 50, 0, "B", "1", "b");
  }

  private void readingsJoined() {
    DotPress x = new DotPress();
    x.table(0, 8, 0);
    Check.rule(x, 0, 0, "a", 1);
    x.table(0, 8, 0);
    Check.rule(x, 1, 0, "v", 1);
    int j = x.join(0, 1);
    Check.indicator(x, j, 2, 1);
    Check.indicator(x, j, 3, 1);
    Check.lay(x, new int[] {1, 1, 1});
    given(x, j, 0, 50, 0, "aaa", "aa<", "a<v", "a<>", "<vv", "<v>", "<>a", "<><");
    Check.lay(x, new int[] {1, 0, 1});
    given(x, j, 0, 50, 0, "a a", "a <", "< a", "< <");
    x.failed(0, true);
    Check.lay(x, new int[] {1, 1});
    given(x, j, 0, 50, 0, "  ", " a", " <", "a ", "aa", "a<", "< ", "<v", "<>");
    x.failed(0, false);
    // without a BACK a SECOND part goes on to a BLANK
    x.indicator(j, 3);
    given(x, j, 0, 50, 0, "aa", "a<", "<v");
  }

  private void readingsOfMany() {
    DotPress x = new DotPress();
    x.table(0, 8, 0);
    Check.rule(x, 0, 0, "abcdefgh", 1);
    Check.rule(x, 0, 0, "ijklmnop", 1);
    Check.indicator(x, 0, 0, 2);
    x.measure(100, 50, 36);
    x.table(0, 8, 0);
    Check.rule(x, 1, 0, "x", 1);
    Check.rule(x, 1, 0, "y", 2);
    Check.text(x, "x".repeat(100));
    x.set(1);
    c.promise(30, "readings of 100 CELLS");
    c.done(x, "50", x.readings(0, 0, 50), 50);
    c.due("more()", x.more(), 1);
    c.due("the last byte", x.reading(49, 799), 'p');
    c.due("a byte", x.reading(49, 8 * 94), 'i');
    c.due("a byte", x.reading(49, 8 * 93), 'a');
    c.due("beyond", x.reading(49, 800), -1);
    // ways that come to no end do not take long
    Check.text(x, "x".repeat(99) + "y");
    x.set(1);
    c.done(x, "none", x.readings(0, 0, 50), 0);
    c.due("more()", x.more(), 0);
  }

  private void readingsRefused() {
    c.promise(30, "readings refused");
    DotPress x = press();
    x.table(1, 8, 0);
    Check.text(x, "a\nb");
    x.set(0);
    Check.rule(x, 0, 0, "x", 1);
    x.readings(0, 0, 1);
    c.refused(x, "most 0, ahead of 3", x.readings(9, 9, 0), 6);
    c.refused(x, "most 51", x.readings(9, 9, 51), 6);
    c.refused(x, "no TABLE", x.readings(9, 9, 50), 3);
    c.refused(x, "no such LINE", x.readings(0, 2, 1), 2);
    c.refused(x, "LINE -1", x.readings(0, -1, 1), 2);
    x.lose(1);
    c.refused(x, "lacking", x.readings(0, 1, 1), 1);
    x.cut(0, 101);
    c.refused(x, "101 CELLS", x.readings(0, 0, 1), 6);
    x.drop(0);
    c.refused(x, "what it is under", x.readings(1, 0, 1), 3);
    c.due("readings stay", x.reading(0, 0), 'a');
    c.due("more() stays", x.more(), 1);
    x.undo();
    x.cut(0, 100);
    c.done(x, "100 CELLS", x.readings(0, 0, 9), 2);
    c.due("more()", x.more(), 0);
    c.done(x, "reading(1, 0)", x.reading(1, 0), 'x');
    c.done(x, "reading(1, 99)", x.reading(1, 99), 32);
    c.refused(x, "reading(1, 100)", x.reading(1, 100), 2);
  }

  private void judge() {
    c.promise(33, "judge");
    DotPress x = new DotPress();
    x.table(0, 8, 0);
    c.done(x, "no ROWS", x.judge(0), 1);
    Check.rule(x, 0, 0, "a", 1, 2);
    Check.rule(x, 0, 0, "b", 2);
    Check.rule(x, 0, 0, "c", 1, 3, 2);
    c.done(x, "READABLE", x.judge(0), 1);
    Check.rule(x, 0, 0, "d", 1);
    c.done(x, "at the begin of others", x.judge(0), 0);
    x.undo();
    Check.rule(x, 0, 0, "d", 2, 5);
    c.done(x, "another at its begin", x.judge(0), 0);
    x.undo();
    Check.rule(x, 0, 0, "d", 1, 2);
    c.done(x, "like ones", x.judge(0), 0);
    x.undo();
    Check.rule(x, 0, 0, "d", 5, 36);
    c.done(x, "ends with the HYPHEN", x.judge(0), 0);
    x.measure(5, 5, 7);
    c.done(x, "it is another HYPHEN", x.judge(0), 1);
    x.undo();
    Check.rule(x, 0, 0, "d", 7, 9);
    c.done(x, "begins with the HYPHEN", x.judge(0), 1);
    Check.indicator(x, 0, 0, 1, 3);
    c.done(x, "CAPITAL is a ROW", x.judge(0), 0);
    Check.indicator(x, 0, 0, 9, 7);
    c.done(x, "CAPITAL ends with the HYPHEN", x.judge(0), 0);
    x.undo();
    x.table(2, 8, 0);
    c.done(x, "the BASE's CAPITAL is none", x.judge(1), 1);
    Check.rule(x, 1, 0, "1", 2, 9);
    c.done(x, "with its BASE", x.judge(1), 0);
    x.undo();
    Check.indicator(x, 1, 1, 2, 9);
    c.done(x, "NUMBER is a ROW", x.judge(1), 0);
    x.indicator(1, 1);
    x.table(3, 8, 1);
    x.table(1, 8, 2);
    c.done(x, "Short", x.judge(2), 0);
    c.done(x, "over Short", x.judge(3), 0);
    Check.indicator(x, 0, 0, 10);
    c.done(x, "READABLE again", x.judge(0), 1);
    int j = x.join(0, 1);
    c.done(x, "a Joined", x.judge(j), 1);
    Check.indicator(x, j, 2, 2, 2);
    c.done(x, "CHANGE among FIRST", x.judge(j), 0);
    Check.indicator(x, j, 2, 11);
    Check.indicator(x, j, 3, 11);
    c.done(x, "apart from each other", x.judge(j), 1);
    Check.indicator(x, j, 3, 1);
    c.done(x, "BACK among SECOND", x.judge(j), 0);
    Check.indicator(x, j, 3, 11, 7);
    c.done(x, "BACK ends with the HYPHEN", x.judge(j), 0);
    c.done(x, "a Joined with a Short", x.judge(x.join(0, 3)), 0);
    c.done(x, "a Joined with a Short", x.judge(x.join(2, 0)), 0);
  }

  private void judgeRefused() {
    c.promise(33, "judge refused");
    DotPress x = new DotPress();
    x.table(0, 8, 0);
    x.table(1, 8, 0);
    x.table(4, 8, 0);
    x.join(0, 1);
    c.refused(x, "no TABLE", x.judge(4), 3);
    c.refused(x, "Music", x.judge(2), 4);
    x.drop(0);
    c.refused(x, "dropped", x.judge(0), 3);
    c.refused(x, "what it is under", x.judge(1), 3);
    c.refused(x, "what it is joined of", x.judge(3), 3);
    c.refused(x, "Music", x.judge(2), 4);
    x.drop(2);
    c.refused(x, "Music that is dropped", x.judge(2), 3);
  }

  private void parts() {
    c.promise(34, "parts");
    DotPress x = new DotPress();
    x.table(0, 8, 0);
    Check.rule(x, 0, 0, "a", 1, 2, 3, 4);
    Check.rule(x, 0, 0, "b", 1, 2, 4);
    x.table(2, 8, 0);
    Check.rule(x, 1, 0, "1", 5);
    Check.indicator(x, 1, 0, 1, 2);
    Check.indicator(x, 1, 1, 5, 6);
    c.done(x, "two alike", x.parts(0, 0, 1), 2);
    c.done(x, "itself", x.parts(0, 0, 0), -5);
    c.done(x, "own and BASE's", x.parts(1, 0, 1), 0);
    c.done(x, "BASE's", x.parts(1, 1, 2), 2);
    c.done(x, "CAPITAL", x.parts(1, 2, 3), -3);
    c.done(x, "NUMBER", x.parts(1, 4, 0), -2);
    c.refused(x, "ROW 5", x.parts(1, 5, 0), 2);
    c.refused(x, "ROW 5", x.parts(1, 0, 5), 2);
    c.refused(x, "ROW -1", x.parts(1, -1, 0), 2);
    c.refused(x, "ROW -1", x.parts(1, 0, -1), 2);
    c.refused(x, "no TABLE", x.parts(7, 0, 0), 3);
    int j = x.join(0, 1);
    c.refused(x, "no CHANGE", x.parts(j, 2, 0), 2);
    Check.indicator(x, j, 2, 1);
    c.done(x, "CHANGE", x.parts(j, 2, 0), -2);
    c.refused(x, "FIRST's part alone", x.parts(j, 3, 0), 2);
    x.table(4, 8, 0);
    Check.rule(x, 3, 0, "m", 1);
    c.done(x, "Music", x.parts(3, 0, 0), -2);
    x.drop(0);
    c.refused(x, "what it is under", x.parts(1, 0, 0), 3);
    c.refused(x, "what it is joined of", x.parts(j, 0, 0), 3);
  }

  private void unreadable() {
    c.promise(35, "unreadable");
    DotPress x = press();
    Check.text(x, "abc");
    x.set(0);
    reads(x, 0, 0, 1, "abc");
    c.promise(35, "unreadable");
    c.done(x, "none", x.unreadable(0, 3, 5000), 0);
    c.same("READ stays", Check.bytesRead(x), "abc");
    Check.rule(x, 0, 0, "f", 1, 2);
    c.done(x, "ab is read as f", x.unreadable(0, 3, 5000), 2);
    c.same("READ", Check.bytesRead(x), "ab");
    x.undo();
    // CAPITAL: great ones are tried, too
    Check.indicator(x, 0, 0, 2);
    c.done(x, "A is read as ba", x.unreadable(0, 1, 100), 1);
    c.same("READ", Check.bytesRead(x), "A");
    Check.indicator(x, 0, 0, 2, 2);
    c.done(x, "BA is CAPITAL, CAPITAL, and WRONG", x.unreadable(0, 2, 5000), 2);
    c.same("READ", Check.bytesRead(x), "BA");
    // no RULES: no WORDS
    x.table(0, 8, 0);
    c.done(x, "none", x.unreadable(1, 6, 1), 0);
    // Short takes great ones as small ones
    x.table(3, 8, 0);
    c.done(x, "Short", x.unreadable(2, 6, 5000), 1);
    c.same("READ", Check.bytesRead(x), "A");
    // NUMBER gives nothing, but it must be told from others
    x.table(2, 8, 0);
    Check.rule(x, 3, 0, "1", 1);
    c.done(x, "Numeric", x.unreadable(3, 1, 5000), 1);
    c.same("a is read as 1", Check.bytesRead(x), "a");
  }

  private void unreadableOrder() {
    c.promise(35, "the order of WORDS, and how many");
    DotPress x = new DotPress();
    x.table(0, 8, 0);
    Check.rule(x, 0, 0, "b", 1);
    Check.rule(x, 0, 0, "1", 2);
    // 1, B, b; 11, 1B, 1b, B1, BB, Bb, b1, bB, bb
    c.refused(x, "two of twelve", x.unreadable(0, 2, 2), 8);
    c.due("FIND of two", x.finds(0), 2);
    c.refused(x, "eleven of twelve", x.unreadable(0, 2, 11), 8);
    // 3 of one, 2 each of 11 1B 1b, 1 each of B1 BB Bb, 2 each of b1 bB
    c.due("FIND of eleven", x.finds(0), 2 + 3 + 6 + 3 + 4);
    c.done(x, "twelve of twelve", x.unreadable(0, 2, 12), 0);
    c.done(x, "three of three", x.unreadable(0, 1, 3), 0);
    Check.rule(x, 0, 0, "b1", 1, 1);
    c.done(x, "bb is the twelfth", x.unreadable(0, 2, 12), 2);
    c.same("bb is read as b1", Check.bytesRead(x), "bb");
    c.refused(x, "bb is the twelfth", x.unreadable(0, 2, 11), 8);
    c.same("READ stays", Check.bytesRead(x), "bb");
    x.condition(0, 2, 3);
    c.done(x, "CONDITIONS are for setting", x.unreadable(0, 2, 12), 2);
    // all LETTERS of longer RULES are tried
    x.table(0, 8, 0);
    Check.rule(x, 1, 0, "zy", 1);
    Check.rule(x, 1, 0, "zyz", 1);
    c.done(x, "zyz is read as zy", x.unreadable(1, 3, 500), 3);
    c.same("READ", Check.bytesRead(x), "zyz");
    c.done(x, "in two LETTERS none", x.unreadable(1, 2, 20), 0);
    c.refused(x, "4 and 16 WORDS", x.unreadable(1, 2, 19), 8);
    c.due("place()", x.place(), -1);
    // ! and } are the first and the last LETTER, and z has a great one
    x.table(0, 8, 0);
    Check.rule(x, 2, 0, "!", 1);
    Check.rule(x, 2, 0, "}", 2);
    Check.rule(x, 2, 0, "z{", 3);
    c.refused(x, "! Z z { }", x.unreadable(2, 1, 4), 8);
    c.done(x, "none", x.unreadable(2, 1, 5), 0);
    Check.rule(x, 2, 0, "}}", 1);
    c.done(x, "the last of all", x.unreadable(2, 2, 30), 2);
    c.same("READ", Check.bytesRead(x), "}}");
    c.done(x, "LETTERS of another TABLE are not tried", x.unreadable(0, 1, 3), 0);
  }

  private void unreadableJoined() {
    c.promise(35, "unreadable of a Joined");
    DotPress x = new DotPress();
    x.table(0, 8, 0);
    x.table(0, 8, 0);
    int j = x.join(0, 1);
    c.refused(x, "< and > alone are tried", x.unreadable(j, 1, 1), 8);
    c.done(x, "they can't be set", x.unreadable(j, 1, 2), 0);
    Check.rule(x, 0, 0, "a", 1);
    Check.rule(x, 1, 0, "b", 1);
    Check.indicator(x, j, 2, 2);
    // < > A B a b
    c.refused(x, "LETTERS of both parts", x.unreadable(j, 1, 5), 8);
    c.done(x, "none", x.unreadable(j, 1, 6), 0);
    c.done(x, "none", x.unreadable(j, 3, 5000), 0);
    Check.indicator(x, j, 3, 1, 1);
    c.done(x, "<b> is read as <>a", x.unreadable(j, 3, 5000), 3);
    c.same("READ", Check.bytesRead(x), "<b>");
    Check.rule(x, 0, 0, "<", 3);
    c.done(x, "a RULE with < is never found", x.unreadable(j, 2, 5000), 0);
    // > in FIRST's part is read as > again
    Check.rule(x, 0, 0, ">", 4);
    c.done(x, "none", x.unreadable(j, 2, 5000), 0);
    Check.rule(x, 0, 0, "a>", 2);
    c.done(x, "a> is read as <", x.unreadable(j, 2, 5000), 1);
    c.same("< is read as a>", Check.bytesRead(x), "<");
  }

  private void unreadableRefused() {
    c.promise(35, "unreadable refused");
    DotPress x = press();
    x.table(1, 8, 0);
    x.join(1, 1);
    c.refused(x, "n 0, ahead of 3", x.unreadable(9, 0, 1), 6);
    c.refused(x, "n 7", x.unreadable(0, 7, 1), 6);
    c.refused(x, "n -1", x.unreadable(0, -1, 1), 6);
    c.refused(x, "most 0", x.unreadable(9, 1, 0), 6);
    c.refused(x, "most 5001", x.unreadable(0, 1, 5001), 6);
    c.refused(x, "no TABLE", x.unreadable(9, 1, 1), 3);
    c.refused(x, "SPENT", x.unreadable(0, 6, 5000), 8);
    c.due("FIND of 5000 WORDS", x.finds(0) > 5000 ? 1 : 0, 1);
    x.drop(0);
    c.refused(x, "what it is under", x.unreadable(1, 1, 1), 3);
    c.refused(x, "what it is joined of", x.unreadable(2, 1, 1), 3);
  }

  private void saved() {
    c.promise(36, "saved");
    DotPress x = press();
    x.table(1, 8, 0);
    Check.rule(x, 1, 0, "abc", 9);
    c.done(x, "no TEXT", x.saved(0, 1), 0);
    Check.text(x, "^abc ab~c\n\n~ abca");
    c.done(x, "saved(0, 1)", x.saved(0, 1), 6);
    c.due("finds(0)", x.finds(0), 10 + 2 * 4);
    c.due("finds(1)", x.finds(1), 4);
    c.done(x, "saved(1, 0)", x.saved(1, 0), -6);
    c.done(x, "saved(1, 1)", x.saved(1, 1), 0);
    c.due("no LINES are made", x.lines(), 0);
  }

  private void savedRefused() {
    c.promise(36, "saved refused");
    DotPress x = press();
    x.table(0, 8, 0);
    Check.rule(x, 1, 0, "a", 9, 9, 9, 9);
    Check.text(x, "aa xb");
    c.refused(x, "no TABLE a", x.saved(5, 0), 3);
    c.refused(x, "no TABLE b", x.saved(0, 5), 3);
    c.due("UNKNOWN by a", x.saved(0, 1), 0);
    c.due("status()", x.status(), 7);
    c.due("place()", x.place(), 3);
    c.due("b is not looked at", x.finds(0), 3);
    Check.text(x, "aa b");
    c.due("UNKNOWN by b", x.saved(0, 1), 0);
    c.due("status()", x.status(), 7);
    c.due("place()", x.place(), 3);
    Check.text(x, "b " + "a".repeat(51));
    c.due("UNKNOWN comes first by b", x.saved(0, 1), 0);
    c.due("status()", x.status(), 7);
    Check.text(x, "a".repeat(51) + " b");
    c.due("too many CELLS come first by b", x.saved(0, 1), 0);
    c.due("status()", x.status(), 6);
    c.due("place()", x.place(), -1);
    Check.text(x, "a".repeat(50) + " " + "a".repeat(50));
    c.done(x, "not too many in one WORD", x.saved(1, 0), 300);
    x.table(1, 8, 0);
    x.join(0, 2);
    x.drop(0);
    c.refused(x, "what a is under", x.saved(2, 1), 3);
    c.refused(x, "what b is joined of", x.saved(1, 3), 3);
  }
}
