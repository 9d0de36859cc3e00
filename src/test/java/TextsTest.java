/** Promises 11 to 26: TEXT, LINES and PAGES. */
public final class TextsTest {
  private final Check c = new Check();

  public static void main(String[] args) {
    TextsTest test = new TextsTest();
    test.text();
    test.measure();
    test.setLines();
    test.setEmptyLines();
    test.setFinds();
    test.setCapitals();
    test.setNumbers();
    test.setEdges();
    test.setShort();
    test.setMusic();
    test.setJoined();
    test.setRefused();
    test.setUnknown();
    test.setTooMuch();
    test.breaks();
    test.breaksByKind();
    test.longLines();
    test.centred();
    test.head();
    test.headRefused();
    test.pages();
    test.page();
    test.lengthAndCell();
    test.cut();
    test.lose();
    test.copyRow();
    test.copyLines();
    test.emboss();
    test.c.end("TextsTest");
  }

  /** a to e have the CELLS 1 to 5. */
  private static DotPress press(int width) {
    DotPress x = new DotPress();
    Check.plain(x, "abcde");
    x.measure(width, 25, 36);
    return x;
  }

  private void text() {
    c.promise(11, "text");
    DotPress x = press(10);
    Check.tape(x, "ab");
    c.done(x, "text()", x.text(), 2);
    Check.tape(x, "c d");
    c.done(x, "behind it", x.text(), 5);
    x.set(0);
    c.same("one WORD of both", Check.line(x, 0), "1 2 3 0 4");
    Check.tape(x, "\n ~}!");
    c.done(x, "the bytes at the edges", x.text(), 10);
    for (int b : new int[] {0, 9, 11, 31, 127, 128, 255}) {
      Check.tape(x, "a", b);
      c.refused(x, "byte " + b, x.text(), 6);
      c.due("the TAPE is empty", x.end(1), -1);
      Check.tape(x, "", b, 'a');
      c.refused(x, "byte " + b + " at first", x.text(), 6);
    }
    Check.tape(x, "a".repeat(490));
    c.done(x, "500 bytes", x.text(), 500);
    Check.tape(x, "a");
    c.refused(x, "501 bytes", x.text(), 6);
    c.due("the TAPE is empty", x.end(1), -1);
    c.done(x, "an empty TAPE", x.text(), 0);
    Check.tape(x, "a".repeat(501));
    c.refused(x, "501 bytes at once", x.text(), 6);
    Check.tape(x, "e");
    c.done(x, "TEXT was empty", x.text(), 1);
  }

  private void measure() {
    c.promise(12, "measure");
    DotPress x = press(5);
    c.laid(x, 0, "abc de", "1 2 3", "4 5");
    c.refused(x, "WIDTH 0", x.measure(0, 1, 1), 6);
    c.refused(x, "WIDTH 101", x.measure(101, 1, 1), 6);
    c.refused(x, "HEIGHT 0", x.measure(1, 0, 1), 6);
    c.refused(x, "HEIGHT 51", x.measure(1, 51, 1), 6);
    c.refused(x, "HYPHEN 0", x.measure(1, 1, 0), 6);
    c.refused(x, "HYPHEN 256", x.measure(1, 1, 256), 6);
    c.refused(x, "HYPHEN -1", x.measure(1, 1, -1), 6);
    c.due("as it was", x.pages(), 1);
    c.due("as it was", x.emboss(0, 2), 7);
    c.done(x, "the least", x.measure(1, 1, 1), 1);
    c.due("LINES stay", x.lines(), 2);
    c.same("LINES stay", Check.line(x, 0), "1 2 3");
    c.due("PAGES of one LINE", x.pages(), 2);
    c.done(x, "the most", x.measure(100, 50, 255), 1);
    c.laid(x, 0, "a".repeat(99) + "~" + "bb", "1 ".repeat(99) + "255", "2 2");
  }

  private void setLines() {
    c.promise(13, "set");
    DotPress x = press(5);
    c.laid(x, 0, "ab cd", "1 2 0 3 4");
    c.laid(x, 0, "ab cde", "1 2", "3 4 5");
    c.laid(x, 0, "  ab   cd  ", "1 2 0 3 4");
    c.laid(x, 0, "a b c d", "1 0 2 0 3", "4");
    c.laid(x, 0, "abcde a", "1 2 3 4 5", "1");
    c.laid(x, 0, "a\nb", "1", "2");
    c.laid(x, 0, "a~b ~ ~~ ~c~", "1 2 0 3");
    Check.text(x, "ab");
    c.done(x, "once", x.set(0), 1);
    c.done(x, "twice, all anew", x.set(0), 1);
  }

  private void setEmptyLines() {
    c.promise(13, "empty lines of TEXT");
    DotPress x = press(5);
    c.laid(x, 0, "");
    c.laid(x, 0, "\n", "");
    c.laid(x, 0, "a\n", "1");
    c.laid(x, 0, "\na", "", "1");
    c.laid(x, 0, "a\n\n\nb", "1", "", "", "2");
    c.laid(x, 0, "  \n~\n^\na", "", "", "", "1");
  }

  private void setFinds() {
    c.promise(13, "FIND");
    DotPress x = press(20);
    // the longest, the first of as long ones
    Check.rule(x, 0, 0, "ab", 10);
    Check.rule(x, 0, 0, "ab", 11);
    Check.rule(x, 0, 0, "bcd", 12);
    c.laid(x, 0, "abcd bcd", "10 3 4 0 12");
    c.laid(x, 0, "a~bcd", "10 3 4");
    x.table(1, 8, 0);
    Check.rule(x, 1, 0, "ab", 20);
    Check.rule(x, 1, 0, "b", 21);
    Check.rule(x, 1, 0, "a", 22);
    c.laid(x, 1, "abcd bcd b aa", "20 3 4 0 12 0 21 0 22 22");
    x.table(1, 8, 1);
    Check.rule(x, 2, 1, "a", 30);
    c.laid(x, 2, "aba aac", "20 22 0 30 22 3");
    x.measure(20, 25, 36);
    // a RULE does not go over the end of a WORD
    c.laid(x, 0, "a b", "1 0 2");
  }

  private void setCapitals() {
    c.promise(13, "CAPITAL");
    DotPress x = press(20);
    c.unknown(x, 0, "aB", 1);
    Check.indicator(x, 0, 0, 40, 41);
    c.laid(x, 0, "aB", "1 40 41 2");
    Check.rule(x, 0, 0, "B", 50);
    Check.rule(x, 0, 0, "bcd", 12);
    Check.rule(x, 0, 0, "bD", 13);
    c.laid(x, 0, "BA", "50 40 41 1");
    c.laid(x, 0, "bD", "13");
    c.laid(x, 0, "Cbcd", "40 41 3 12");
    c.unknown(x, 0, "Z", 0);
    x.undo();
    x.undo();
    x.undo();
    // only the byte at the place is taken as a small one
    Check.rule(x, 0, 0, "bc", 14);
    c.laid(x, 0, "Bc BC", "40 41 14 0 40 41 2 40 41 3");
    // the CAPITAL is the TABLE's own
    x.table(1, 8, 0);
    c.unknown(x, 1, "aB", 1);
    Check.indicator(x, 1, 0, 60);
    c.laid(x, 1, "aB", "1 60 2");
  }

  private void setNumbers() {
    c.promise(13, "NUMBER");
    DotPress x = press(30);
    Check.rule(x, 0, 0, "1", 11);
    x.table(2, 8, 0);
    Check.rule(x, 1, 0, "2", 22);
    Check.rule(x, 1, 0, "3", 23);
    Check.rule(x, 1, 0, "a", 99);
    c.laid(x, 1, "a23", "1 22 23");
    Check.indicator(x, 1, 1, 60, 61);
    c.laid(x, 1, "a23 3a", "1 60 61 22 23 0 60 61 23 1");
    // each row of digits has its own NUMBER
    c.laid(x, 1, "2a3", "60 61 22 1 60 61 23");
    // the BASE's RULES are not for digits
    c.unknown(x, 1, "a1", 1);
    c.laid(x, 0, "a1", "1 11");
    // as a BASE it has no NUMBER, but FIND is its own
    x.table(1, 8, 1);
    c.laid(x, 2, "a23", "1 22 23");
    c.unknown(x, 2, "a1", 1);
    // a digit inside a RULE is a digit ahead
    Check.rule(x, 0, 0, "b1", 12);
    c.laid(x, 1, "b12", "12 22");
    Check.indicator(x, 1, 0, 50);
    c.laid(x, 1, "A2", "50 1 60 61 22");
  }

  private void setEdges() {
    c.promise(13, "the first and last of digits, great and small ones");
    DotPress x = new DotPress();
    Check.plain(x, "az/:@[`{");
    Check.indicator(x, 0, 0, 50);
    x.table(2, 8, 0);
    Check.rule(x, 1, 0, "0", 10);
    Check.rule(x, 1, 0, "9", 19);
    Check.rule(x, 1, 0, "/", 99);
    Check.indicator(x, 1, 1, 60);
    c.laid(x, 1, "09 90a0 9", "60 10 19 0 60 19 10 1 60 10 0 60 19");
    c.laid(x, 1, "/:0", "3 4 60 10");
    c.laid(x, 0, "AZ@[`{az", "50 1 50 2 5 6 7 8 1 2");
    x.table(3, 8, 0);
    c.laid(x, 2, "AZ@[", "1 2 5 6");
    // beside a digit it is not broken, beside others it is
    x.measure(3, 25, 36);
    c.laid(x, 1, "a0~aa a9~aa", "1 60 10 1 1", "1 60 19 1 1");
    c.laid(x, 1, "a/~aa a:~aa", "1 3 36", "1 1", "1 4 36", "1 1");
  }

  private void setShort() {
    c.promise(13, "Short");
    DotPress x = press(30);
    Check.indicator(x, 0, 0, 50);
    x.table(3, 8, 0);
    Check.rule(x, 1, 0, "ab", 10);
    c.laid(x, 1, "ab Ab aB A", "10 0 10 0 1 2 0 1");
    x.table(1, 8, 1);
    Check.rule(x, 2, 0, "A", 20);
    c.laid(x, 2, "Ab AC aA", "10 0 20 3 0 1 20");
    c.unknown(x, 1, "aX", 1);
  }

  private void setMusic() {
    c.promise(13, "Music");
    DotPress x = press(30);
    x.table(4, 8, 0);
    c.unknown(x, 1, "a", 0);
    Check.rule(x, 1, 0, "a", 70);
    Check.rule(x, 1, 0, "aa", 71);
    c.laid(x, 1, "aaa", "71 70");
    c.unknown(x, 1, "aA", 1);
    x.measure(3, 5, 36);
    Check.rule(x, 1, 0, "b", 72);
    c.laid(x, 1, "bb~bb b~b", "72 72 72 72", "72 72");
  }

  private void setJoined() {
    c.promise(13, "Joined");
    DotPress x = press(30);
    int second = Check.plain(x, "vwxyz");
    int j = x.join(0, second);
    c.unknown(x, j, "ab<v", 2);
    Check.indicator(x, j, 2, 60, 61);
    c.laid(x, j, "ab<vw a", "1 2 60 61 1 2 0 1");
    c.unknown(x, j, "ab<v>a", 4);
    Check.indicator(x, j, 3, 62);
    c.laid(x, j, "ab<v>a<w", "1 2 60 61 1 62 1 60 61 2");
    c.laid(x, j, "<> < a<", "60 61 62 0 60 61 0 1 60 61");
    c.unknown(x, j, "a>b", 1);
    c.unknown(x, j, "<<", 1);
    c.unknown(x, j, "<a", 1);
    c.unknown(x, j, "v", 0);
    // each WORD begins in FIRST
    c.unknown(x, j, "<v v", 3);
    // > in FIRST's part and < in SECOND's are LETTERS
    Check.rule(x, 0, 0, ">", 7);
    Check.rule(x, second, 0, "<", 8);
    c.laid(x, j, "a><<><<>", "1 7 60 61 8 62 60 61 8 62");
    // its parts are WORDS of their own
    Check.rule(x, 0, 4, "ab", 9);
    Check.rule(x, second, 3, "vw", 10);
    c.laid(x, j, "ab<vwvw>ab<vwx>abc", "9 60 61 1 2 10 62 9 60 61 1 2 3 62 1 2 3");
    // a Joined is not broken
    x.measure(3, 5, 36);
    c.laid(x, j, "ab~cd b", "1 2 3 4", "2");
    Check.indicator(x, 0, 0, 50);
    c.laid(x, j, "B", "50 2");
  }

  private void setRefused() {
    c.promise(13, "set refused by its TABLE");
    DotPress x = press(30);
    c.laid(x, 0, "ab", "1 2");
    c.refused(x, "set(-1)", x.set(-1), 3);
    c.refused(x, "set(1)", x.set(1), 3);
    x.table(1, 8, 0);
    x.table(1, 8, 1);
    x.join(2, 2);
    x.table(0, 8, 0);
    x.join(4, 2);
    x.drop(0);
    for (int t = 0; t <= 5; t++) {
      if (t != 4) {
        c.refused(x, "set(" + t + ")", x.set(t), 3);
      }
    }
    c.due("LINES stay", x.lines(), 1);
  }

  private void setUnknown() {
    c.promise(13, "UNKNOWN");
    DotPress x = press(30);
    c.laid(x, 0, "ab", "1 2");
    c.unknown(x, 0, "xa", 0);
    c.unknown(x, 0, "a~~bx", 4);
    c.unknown(x, 0, "a\n^a x x", 5);
    c.unknown(x, 0, "^^a", 1);
    c.unknown(x, 0, "a^", 1);
    c.same("LINES stay", Check.line(x, 0), "1 2");
    c.due("place()", x.place(), -1);
    // what has been found until then is counted
    DotPress y = press(30);
    Check.text(y, "ab xa");
    y.set(0);
    c.due("finds(0)", y.finds(0), 3);
  }

  private void setTooMuch() {
    c.promise(13, "too many LINES or CELLS");
    DotPress x = press(1);
    c.laid(x, 0, "a", "1");
    Check.text(x, "\n".repeat(200));
    c.done(x, "200 LINES", x.set(0), 200);
    Check.text(x, "\n".repeat(200) + "x");
    c.refused(x, "201 lines of TEXT", x.set(0), 6);
    Check.text(x, "a ".repeat(200));
    c.done(x, "200 WORDS", x.set(0), 200);
    Check.text(x, "a ".repeat(200) + "a x");
    c.refused(x, "201 WORDS", x.set(0), 6);
    Check.text(x, "a ".repeat(200) + "x a");
    c.due("7 of the WORD that comes", x.set(0), -1);
    c.due("status()", x.status(), 7);
    c.due("place()", x.place(), 400);
    c.due("LINES stay", x.lines(), 200);
    Check.rule(x, 0, 0, "f", 6, 6, 6, 6);
    c.laid(x, 0, "f".repeat(50), "6 ".repeat(199) + "6");
    Check.text(x, "f".repeat(50) + "ax");
    c.refused(x, "201 CELLS", x.set(0), 6);
    Check.text(x, "f".repeat(49) + "x" + "f".repeat(10));
    c.due("7 ahead of too many", x.set(0), -1);
    c.due("status()", x.status(), 7);
    Check.indicator(x, 0, 0, 7, 7, 7, 7);
    Check.text(x, "f".repeat(50) + "X");
    c.due("no RULE behind the CAPITAL", x.set(0), -1);
    c.due("status()", x.status(), 7);
    Check.text(x, "f".repeat(49) + "A");
    c.refused(x, "with the CAPITAL ahead", x.set(0), 6);
    Check.text(x, "f".repeat(48) + "A");
    c.done(x, "it has room", x.set(0), 1);
    int j = x.join(0, 0);
    Check.indicator(x, j, 2, 8);
    Check.text(x, "f".repeat(50) + "<");
    c.refused(x, "with CHANGE behind", x.set(j), 6);
    Check.text(x, "f".repeat(49) + "aaa<");
    c.done(x, "it has room", x.set(j), 1);
    x.measure(100, 50, 36);
    Check.text(x, ("a".repeat(49) + "~").repeat(4) + "aaaa");
    c.done(x, "a WORD of 200 CELLS, broken", x.set(0), 3);
  }

  private void breaks() {
    c.promise(13, "breaking WORDS");
    DotPress x = press(6);
    c.laid(x, 0, "abc~d~e", "1 2 3 4 5");
    c.laid(x, 0, "a~b~c~d~eab", "1 2 3 4 36", "5 1 2");
    c.laid(x, 0, "abc c~d~e", "1 2 3 0 3 36", "4 5");
    c.laid(x, 0, "ab cd~eb", "1 2 0 3 4 36", "5 2");
    c.laid(x, 0, "ab cde~b", "1 2", "3 4 5 2");
    c.laid(x, 0, "abc de~e", "1 2 3", "4 5 5");
    c.laid(x, 0, "ab~cd~ea~bc~dea ab", "1 2 3 4 36", "5 1 2 3 36", "4 5 1 0 1 2");
    c.laid(x, 0, "~abcdeab~", "1 2 3 4 5 1 2");
    c.laid(x, 0, "abc~~~deab", "1 2 3 36", "4 5 1 2");
    // a place inside a RULE is none
    Check.rule(x, 0, 0, "cd", 9);
    c.laid(x, 0, "abc~deabc", "1 2 9 5 1 2 3");
    c.laid(x, 0, "ab~c~deabc", "1 2 36", "9 5 1 2 3");
    // the CELLS are those of the whole WORD
    Check.rule(x, 0, 3, "ab", 10);
    c.laid(x, 0, "abab~aaab", "1 2 1 2 36", "1 1 10");
    // indicators belong to what is behind them
    Check.indicator(x, 0, 0, 40, 41);
    c.laid(x, 0, "aa~Aaaa", "1 1 36", "40 41 1 1 1 1");
    c.laid(x, 0, "a~A~Aa", "1 40 41 1 36", "40 41 1 1");
    // all that fits is not broken, also at the edge
    c.laid(x, 0, "aa aa~a", "1 1 0 1 1 1");
    c.laid(x, 0, "ba aa~aa a", "2 1 0 1 1 36", "1 1 0 1");
  }

  private void breaksByKind() {
    c.promise(13, "breaking WORDS by KIND");
    DotPress x = press(4);
    x.table(1, 8, 0);
    c.laid(x, 1, "aa~aaa", "1 1 36", "1 1 1");
    x.table(2, 8, 0);
    Check.rule(x, 2, 0, "1", 11);
    c.laid(x, 2, "aa~aaa", "1 1 36", "1 1 1");
    c.laid(x, 2, "a1~aaa", "1 11 1 1 1");
    c.laid(x, 2, "aa~1aa", "1 1 11 1 1");
    c.laid(x, 2, "1a~a1a", "11 1 36", "1 11 1");
    c.laid(x, 2, "1~1~11~~11", "11 11 11 11 11 11");
    x.table(3, 8, 0);
    c.laid(x, 3, "aa~aaa", "1 1 1 1 1");
    c.laid(x, 3, "aa~aaaa", "1 1 36", "1 1 1 1");
    c.laid(x, 3, "aa~a~a~a~a", "1 1 1 36", "1 1 1");
  }

  private void longLines() {
    c.promise(13, "LONG LINES");
    DotPress x = press(3);
    c.laid(x, 0, "abcd", "1 2 3 4");
    c.laid(x, 0, "a abcd a b", "1", "1 2 3 4", "1 0 2");
    c.laid(x, 0, "abc~de", "1 2 3 4 5");
    c.laid(x, 0, "ab~cdea", "1 2 36", "3 4 5 1");
    x.measure(1, 5, 36);
    c.laid(x, 0, "a~b c", "1 2", "3");
  }

  private void centred() {
    c.promise(13, "CENTRED");
    DotPress x = press(6);
    c.laid(x, 0, "^ab", "0 0 1 2");
    c.laid(x, 0, "^abc", "0 1 2 3");
    c.laid(x, 0, "^abcde", "1 2 3 4 5");
    c.laid(x, 0, "^ ab\nab\n^\n^a", "0 0 1 2", "1 2", "", "0 0 1");
    c.unknown(x, 0, " ^", 1);
    c.laid(x, 0, "^abcd bcde", "0 1 2 3 4", "0 2 3 4 5");
    c.laid(x, 0, "^abcdeab a\na", "1 2 3 4 5 1 2", "0 0 1", "1");
    c.laid(x, 0, "^abc~deabc", "0 1 2 3 36", "4 5 1 2 3");
    Check.rule(x, 0, 0, "^", 9);
    c.laid(x, 0, "^^a ^", "0 9 1 0 9");
  }

  private void head() {
    c.promise(14, "head");
    DotPress x = press(4);
    c.laid(x, 0, "a b c d e", "1 0 2", "3 0 4", "5");
    c.done(x, "no HEAD", x.head(0), 0);
    c.due("PAGES", x.pages(), 1);
    c.done(x, "HEAD", Check.head(x, 0, "abc"), 3);
    c.due("the TAPE is empty", x.end(1), -1);
    c.due("it is there", x.page(0, 0, 2), 3);
    c.done(x, "cut to WIDTH", Check.head(x, 0, "edcba"), 4);
    c.due("its last CELL", x.page(0, 0, 3), 2);
    c.refused(x, "beyond it", x.page(0, 0, 4), 2);
    c.done(x, "40 bytes", Check.head(x, 0, "a".repeat(40)), 4);
    // it is one WORD, and by a Joined it has parts
    Check.rule(x, 0, 4, "ab", 9);
    c.done(x, "one WORD", Check.head(x, 0, "ab"), 1);
    c.due("its CELL", x.page(0, 0, 0), 9);
    int j = x.join(0, 0);
    Check.indicator(x, j, 2, 8);
    c.done(x, "by a Joined", Check.head(x, j, "ab<ab"), 3);
    c.due("its CELL", x.page(0, 0, 1), 8);
    c.due("FIND was run", x.finds(0), 5 + 3 + 5 + 40 + 1 + 2);
    c.done(x, "none any more", x.head(0), 0);
    c.due("LINE 0 again", x.page(0, 0, 0), 1);
  }

  private void headRefused() {
    c.promise(14, "head refused");
    DotPress x = press(4);
    c.laid(x, 0, "a", "1");
    Check.head(x, 0, "e");
    c.refused(x, "41 bytes, ahead of 3", Check.head(x, 7, "a".repeat(41)), 6);
    c.due("the TAPE is empty", x.end(1), -1);
    c.refused(x, "a BLANK", Check.head(x, 0, "a b"), 6);
    c.refused(x, "a ~", Check.head(x, 0, "a~b"), 6);
    c.refused(x, "a byte 10", Check.head(x, 0, "a\n"), 6);
    c.refused(x, "no TABLE", Check.head(x, 7, "x"), 3);
    c.due("the TAPE is empty", x.end(1), -1);
    c.refused(x, "no TABLE, an empty TAPE", x.head(7), 3);
    x.table(1, 8, 0);
    x.drop(0);
    c.refused(x, "what it is under", Check.head(x, 1, "a"), 3);
    x.undo();
    c.due("UNKNOWN", Check.head(x, 1, "abx"), -1);
    c.due("status()", x.status(), 7);
    c.due("place()", x.place(), 2);
    c.due("the TAPE is empty", x.end(1), -1);
    Check.rule(x, 0, 0, "f", 6, 6, 6, 6);
    Check.indicator(x, 0, 0, 7, 7, 7, 7);
    Check.rule(x, 0, 0, "g", 6, 6, 6, 6);
    c.refused(x, "too many CELLS", Check.head(x, 0, "F".repeat(25) + "a"), 6);
    c.due("the HEAD stays", x.page(0, 0, 0), 5);
    c.done(x, "just as many", Check.head(x, 0, "F".repeat(25)), 4);
  }

  private void pages() {
    c.promise(16, "pages");
    DotPress x = press(1);
    c.due("no LINES", x.pages(), 0);
    c.laid(x, 0, "a b c d e", "1", "2", "3", "4", "5");
    c.promise(15, "lines");
    c.due("lines()", x.lines(), 5);
    x.lose(2);
    c.due("with a lacking one", x.lines(), 5);
    c.promise(16, "pages");
    int[] due = {5, 3, 2, 2, 1, 1};
    int[] headed = {5, 5, 3, 2, 2, 1};
    for (int height = 1; height <= 6; height++) {
      x.measure(1, height, 36);
      c.due("HEIGHT " + height, x.pages(), due[height - 1]);
      Check.head(x, 0, "a");
      c.due("with a HEAD", x.pages(), headed[height - 1]);
      x.head(0);
    }
    c.due("STATUS stays", x.letter(9), -1);
    x.pages();
    x.lines();
    c.due("status()", x.status(), 2);
  }

  private void page() {
    c.promise(19, "page");
    DotPress x = press(2);
    c.laid(x, 0, "a b c d e\nab\nbc", "1", "2", "3", "4", "5", "1 2", "2 3");
    x.measure(2, 3, 36);
    c.done(x, "PAGE 0", x.page(0, 2, 0), 3);
    c.done(x, "PAGE 1", x.page(1, 2, 1), 2);
    c.done(x, "PAGE 2", x.page(2, 0, 1), 3);
    c.refused(x, "no such PAGE", x.page(3, 0, 0), 2);
    c.refused(x, "PAGE -1", x.page(-1, 0, 0), 2);
    c.refused(x, "no such LINE on it", x.page(0, 3, 0), 2);
    c.refused(x, "no such LINE on the last", x.page(2, 1, 0), 2);
    c.refused(x, "LINE -1", x.page(1, -1, 0), 2);
    c.refused(x, "no such CELL", x.page(0, 0, 1), 2);
    c.refused(x, "CELL -1", x.page(0, 0, -1), 2);
    x.lose(0);
    c.refused(x, "lacking", x.page(0, 0, 9), 1);
    Check.head(x, 0, "ed");
    c.done(x, "the HEAD", x.page(3, 0, 1), 4);
    c.refused(x, "no such CELL of it", x.page(3, 0, 2), 2);
    c.refused(x, "CELL -1 of it", x.page(3, 0, -1), 2);
    c.refused(x, "lacking, behind the HEAD", x.page(0, 1, 0), 1);
    c.done(x, "PAGE 0", x.page(0, 2, 0), 2);
    c.done(x, "PAGE 3", x.page(3, 1, 1), 3);
    c.refused(x, "no such LINE", x.page(3, 2, 0), 2);
    c.refused(x, "no such LINE", x.page(0, 3, 0), 2);
    x.measure(2, 1, 36);
    c.done(x, "HEIGHT 1 has no HEAD", x.page(6, 0, 1), 3);
    c.refused(x, "one LINE", x.page(6, 1, 0), 2);
    x.measure(2, 50, 36);
    c.refused(x, "far off", x.page(Integer.MAX_VALUE, 0, 0), 2);
    c.refused(x, "far off", x.page(0, Integer.MAX_VALUE, 0), 2);
    c.refused(x, "far off", x.page(0, 1 + 1, Integer.MAX_VALUE), 2);
    x.measure(1, 50, 36);
    c.done(x, "the HEAD stays as it is", x.page(0, 0, 1), 4);
  }

  private void lengthAndCell() {
    DotPress x = press(5);
    c.laid(x, 0, "ab c\n\nd", "1 2 0 3", "", "4");
    x.lose(2);
    c.promise(17, "length");
    c.done(x, "length(0)", x.length(0), 4);
    c.done(x, "length(1)", x.length(1), 0);
    c.refused(x, "lacking", x.length(2), 1);
    c.refused(x, "no such LINE", x.length(3), 2);
    c.refused(x, "LINE -1", x.length(-1), 2);
    c.refused(x, "LINE MIN", x.length(Integer.MIN_VALUE), 2);
    c.promise(18, "cell");
    c.done(x, "cell(0, 0)", x.cell(0, 0), 1);
    c.done(x, "a BLANK", x.cell(0, 2), 0);
    c.done(x, "the last", x.cell(0, 3), 3);
    c.refused(x, "beyond", x.cell(0, 4), 2);
    c.refused(x, "CELL -1", x.cell(0, -1), 2);
    c.refused(x, "of none", x.cell(1, 0), 2);
    c.refused(x, "lacking", x.cell(2, -1), 1);
    c.refused(x, "no such LINE", x.cell(3, 0), 2);
    c.refused(x, "LINE -1", x.cell(-1, 0), 2);
  }

  private void cut() {
    c.promise(20, "cut");
    DotPress x = press(5);
    c.laid(x, 0, "abcd\ne", "1 2 3 4", "5");
    c.done(x, "cut(0, 2)", x.cut(0, 2), 2);
    c.same("LINE", Check.line(x, 0), "1 2");
    c.done(x, "longer", x.cut(0, 4), 4);
    c.same("with BLANKS", Check.line(x, 0), "1 2 0 0");
    c.done(x, "none", x.cut(0, 0), 0);
    c.same("none", Check.line(x, 0), "");
    c.done(x, "200", x.cut(0, 200), 200);
    c.due("its length", x.length(0), 200);
    c.due("its last", x.cell(0, 199), 0);
    c.refused(x, "201, ahead of 2", x.cut(9, 201), 6);
    c.refused(x, "-1, ahead of 2", x.cut(9, -1), 5);
    c.refused(x, "no such LINE", x.cut(2, 0), 2);
    c.refused(x, "LINE -1", x.cut(-1, 0), 2);
    c.refused(x, "MAX", x.cut(0, Integer.MAX_VALUE), 6);
    c.refused(x, "MIN", x.cut(0, Integer.MIN_VALUE), 5);
    x.lose(0);
    c.refused(x, "lacking", x.cut(0, 1), 1);
    c.same("another stays", Check.line(x, 1), "5");
  }

  private void lose() {
    c.promise(21, "lose");
    DotPress x = press(5);
    c.refused(x, "no LINES", x.lose(0), 2);
    c.laid(x, 0, "a\nb", "1", "2");
    c.done(x, "lose(1)", x.lose(1), 1);
    c.done(x, "again", x.lose(1), 1);
    c.refused(x, "it is lacking", x.length(1), 1);
    c.due("another stays", x.length(0), 1);
    c.refused(x, "no such LINE", x.lose(2), 2);
    c.refused(x, "LINE -1", x.lose(-1), 2);
    c.due("set again", x.set(0), 2);
    c.due("it is there again", x.cell(1, 0), 2);
  }

  private void copyRow() {
    c.promise(22, "copyRow");
    DotPress x = press(5);
    c.laid(x, 0, "abcde\nedc\na", "1 2 3 4 5", "5 4 3", "1");
    c.done(x, "forth", x.copyRow(0, 1, 1, 0, 2), 2);
    c.same("LINE 1", Check.line(x, 1), "2 3 3");
    c.same("LINE 0", Check.line(x, 0), "1 2 3 4 5");
    c.done(x, "in itself, on", x.copyRow(0, 0, 0, 1, 4), 4);
    c.same("as they were", Check.line(x, 0), "1 1 2 3 4");
    c.done(x, "in itself, back", x.copyRow(0, 2, 0, 0, 3), 3);
    c.same("as they were", Check.line(x, 0), "2 3 4 3 4");
    c.done(x, "none", x.copyRow(0, 5, 1, 3, 0), 0);
    x.lose(2);
    c.refused(x, "no such LINE from", x.copyRow(3, 0, 2, 0, 0), 2);
    c.refused(x, "LINE from -1", x.copyRow(-1, 0, 2, 0, 0), 2);
    c.refused(x, "no such LINE to, ahead of 1", x.copyRow(2, 0, 3, 0, 0), 2);
    c.refused(x, "from is lacking", x.copyRow(2, 0, 1, 0, -1), 1);
    c.refused(x, "to is lacking", x.copyRow(1, 0, 2, 0, -1), 1);
    c.refused(x, "n -1", x.copyRow(0, 0, 1, 0, -1), 2);
    c.refused(x, "at -1", x.copyRow(0, -1, 1, 0, 1), 2);
    c.refused(x, "place -1", x.copyRow(0, 0, 1, -1, 1), 2);
    c.refused(x, "at beyond", x.copyRow(0, 4, 1, 0, 2), 2);
    c.refused(x, "place beyond", x.copyRow(0, 0, 1, 2, 2), 2);
    c.refused(x, "far off", x.copyRow(0, 1, 1, 1, Integer.MAX_VALUE), 2);
    c.refused(x, "far off", x.copyRow(0, Integer.MAX_VALUE, 1, 0, 1), 2);
    c.refused(x, "far off", x.copyRow(0, 0, 1, Integer.MAX_VALUE, 1), 2);
    c.same("LINE 0 stays", Check.line(x, 0), "2 3 4 3 4");
    c.same("LINE 1 stays", Check.line(x, 1), "2 3 3");
  }

  private void copyLines() {
    c.promise(23, "copyLines");
    DotPress x = press(2);
    c.laid(x, 0, "a\nbb\nc\nd\ne", "1", "2 2", "3", "4", "5");
    c.done(x, "forth", x.copyLines(0, 3, 2), 2);
    c.due("copied()", x.copied(), 2);
    c.same("LINE 3", Check.line(x, 3), "1");
    c.same("LINE 4", Check.line(x, 4), "2 2");
    x.cut(0, 0);
    c.same("a row of its own", Check.line(x, 3), "1");
    c.done(x, "one by one", x.copyLines(1, 2, 3), 3);
    c.same("LINE 4", Check.line(x, 4), "2 2");
    c.done(x, "none", x.copyLines(-9, 99, 0), 0);
    c.due("copied()", x.copied(), 0);
    c.laid(x, 0, "a\nb\nc\nd\ne", "1", "2", "3", "4", "5");
    x.lose(0);
    x.lose(3);
    c.refused(x, "up to a lacking one", x.copyLines(1, 0, 4), 1);
    c.due("copied()", x.copied(), 2);
    c.same("LINE 0", Check.line(x, 0), "2");
    c.same("LINE 1", Check.line(x, 1), "3");
    c.same("LINE 2", Check.line(x, 2), "3");
    c.refused(x, "no such LINE to", x.copyLines(0, 4, 2), 2);
    c.due("copied()", x.copied(), 1);
    c.same("LINE 4", Check.line(x, 4), "2");
    c.refused(x, "no such LINE from", x.copyLines(4, 0, 2), 2);
    c.due("copied()", x.copied(), 1);
    c.refused(x, "to -1, ahead of 1", x.copyLines(3, -1, 1), 2);
    c.promise(24, "copied");
    c.due("none", x.copied(), 0);
    x.copyLines(0, 1, 1);
    c.refused(x, "11", x.copyLines(0, 0, 11), 6);
    c.refused(x, "-1", x.copyLines(0, 0, -1), 5);
    c.due("of the latest from 0 to 10", x.copied(), 1);
    c.due("STATUS stays", x.status(), 5);
    c.refused(x, "10, far off", x.copyLines(Integer.MAX_VALUE, 0, 10), 2);
    c.due("none", x.copied(), 0);
  }

  private void emboss() {
    c.promise(25, "emboss");
    DotPress x = press(4);
    Check.rule(x, 0, 0, "f", 255);
    c.laid(x, 0, "abc\nf f\n\nabcde\nf", "1 2 3", "255 0 255", "", "1 2 3 4 5", "255");
    c.done(x, "one", x.emboss(0, 1), 4);
    c.done(x, "three", x.emboss(0, 3), 20);
    c.promise(26, "closed");
    c.due("closed()", x.closed(), 4);
    c.promise(25, "emboss");
    c.done(x, "behind a long one it is done", x.emboss(1, 9), 16);
    c.due("closed()", x.closed(), 7);
    c.done(x, "a long one", x.emboss(3, 1), 0);
    c.due("closed()", x.closed(), 8);
    x.measure(5, 5, 36);
    c.done(x, "WIDTH as it is now", x.emboss(3, 2), 7 + 8);
    c.due("closed()", x.closed(), 10);
    x.lose(1);
    c.done(x, "a lacking one is passed", x.emboss(0, 3), 4);
    c.due("closed()", x.closed(), 13);
    c.refused(x, "one that is not there", x.emboss(4, 2), 2);
    c.due("closed()", x.closed(), 15);
    c.refused(x, "LINE -1", x.emboss(-1, 3), 2);
    c.due("closed()", x.closed(), 16);
    c.done(x, "none", x.emboss(99, 0), 0);
    c.refused(x, "201", x.emboss(99, 201), 6);
    c.refused(x, "-1", x.emboss(99, -1), 5);
    c.promise(26, "closed");
    c.due("closed()", x.closed(), 16);
    c.due("STATUS stays", x.status(), 5);
    c.refused(x, "200", x.emboss(0, 200), 2);
    c.due("closed()", x.closed(), 22);
  }
}
