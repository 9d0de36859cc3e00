/**
 * Promises 11 to 26 at their edges: the last input that is taken and the first that is refused, rows
 * that are empty, of one, and full, and ints at the ends of their range.
 */
public final class TextEdgesTest {
  private static final int MAX = Integer.MAX_VALUE;
  private static final int MIN = Integer.MIN_VALUE;

  private final Check c = new Check();

  public static void main(String[] args) {
    TextEdgesTest test = new TextEdgesTest();
    test.textBytes();
    test.textSizes();
    test.measures();
    test.measuresAreUsed();
    test.setNothing();
    test.setOneByte();
    test.setFullText();
    test.setFits();
    test.setLetters();
    test.setLongRules();
    test.breaksFit();
    test.breaksBehindWords();
    test.breaksGoOn();
    test.breaksOfManyCells();
    test.breaksOfOthers();
    test.breaksOfShort();
    test.breaksOfNumeric();
    test.neverBroken();
    test.longLines();
    test.twoHundredLines();
    test.twoHundredLinesOfOneWord();
    test.firstInText();
    test.wordsAreSetAsTheyCome();
    test.twoHundredCells();
    test.twoHundredCellsWithIndicators();
    test.twoHundredCellsOfJoined();
    test.joinedParts();
    test.centred();
    test.centredMany();
    test.headBytes();
    test.headCells();
    test.headIsNone();
    test.pages();
    test.page();
    test.pageOfHead();
    test.lengthAndCell();
    test.cut();
    test.lose();
    test.copyRow();
    test.copyRowOfFull();
    test.copyLines();
    test.copyLinesStops();
    test.emboss();
    test.embossMany();
    test.embossShortened();
    test.c.end("TextEdgesTest");
  }

  /** a to e have the CELLS 1 to 5. */
  private static DotPress press(int width) {
    DotPress x = new DotPress();
    Check.plain(x, "abcde");
    x.measure(width, 25, 36);
    return x;
  }

  /** A row of so many times the CELL 1. */
  private static String ones(int n) {
    return "1 ".repeat(n).trim();
  }

  // ---- promises 11 and 12

  private void textBytes() {
    c.promise(11, "a byte that is not 10, 32 to 126");
    for (int b = 0; b < 256; b++) {
      DotPress x = new DotPress();
      boolean is = b == 10 || (b >= 32 && b <= 126);
      Check.tape(x, "", b);
      c.due("byte " + b, x.text(), is ? 1 : -1);
      c.due("status()", x.status(), is ? 0 : 6);
      c.due("the TAPE is empty", x.feed(0, 0, 0, 0, 0), 20);
      x.end(0);
      Check.tape(x, "aa", b);
      c.due("byte " + b + " at the end", x.text(), is ? 4 : -1);
      Check.tape(x, "a");
      c.done(x, "refused ones left TEXT", x.text(), is ? 5 : 1);
    }
  }

  private void textSizes() {
    c.promise(11, "500 bytes");
    DotPress x = new DotPress();
    Check.tape(x, "a".repeat(500));
    c.done(x, "500 at once", x.text(), 500);
    Check.tape(x, "a");
    c.refused(x, "501", x.text(), 6);
    Check.tape(x, "a".repeat(500));
    c.refused(x, "1000", x.text(), 6);
    c.done(x, "empty", x.text(), 0);
    c.done(x, "empty again", x.text(), 0);
    Check.tape(x, "a".repeat(501));
    c.refused(x, "501 at once", x.text(), 6);
    Check.tape(x, "a");
    c.done(x, "one", x.text(), 1);
    Check.tape(x, "a".repeat(500));
    c.refused(x, "501", x.text(), 6);
    Check.tape(x, "a".repeat(498));
    c.done(x, "499", x.text(), 499);
    Check.tape(x, "aa");
    c.refused(x, "501", x.text(), 6);
    Check.tape(x, "a");
    c.done(x, "500", x.text(), 500);
  }

  private void measures() {
    c.promise(12, "measure");
    DotPress x = new DotPress();
    int[][] taken = {{1, 1, 1}, {100, 50, 255}, {1, 50, 1}, {100, 1, 255}, {50, 25, 128}};
    for (int[] m : taken) {
      c.done(x, "taken", x.measure(m[0], m[1], m[2]), 1);
    }
    int[][] refused = {{0, 1, 1}, {101, 1, 1}, {1, 0, 1}, {1, 51, 1}, {1, 1, 0}, {1, 1, 256},
      {-1, 1, 1}, {1, -1, 1}, {1, 1, -1}, {MIN, 1, 1}, {1, MIN, 1}, {1, 1, MIN}, {MAX, 1, 1},
      {1, MAX, 1}, {1, 1, MAX}, {0, 0, 0}, {257, 257, 257}};
    for (int[] m : refused) {
      c.refused(x, m[0] + ", " + m[1] + ", " + m[2], x.measure(m[0], m[1], m[2]), 6);
    }
  }

  private void measuresAreUsed() {
    c.promise(12, "the least and the most");
    DotPress x = press(5);
    x.measure(1, 1, 1);
    c.laid(x, 0, "a a", "1", "1");
    c.due("PAGES of one LINE", x.pages(), 2);
    x.measure(100, 50, 255);
    c.due("LINES stay", x.lines(), 2);
    c.due("one PAGE", x.pages(), 1);
    c.laid(x, 0, "a".repeat(98) + "a~aa", ones(99) + " 255", "1 1");
    c.laid(x, 0, "a".repeat(98) + " a", ones(98) + " 0 1");
    c.laid(x, 0, "a".repeat(99) + " a", ones(99), "1");
    c.promise(12, "HEIGHT 50, and refused ones");
    x = press(5);
    x.measure(100, 50, 255);
    Check.text(x, "\n".repeat(50));
    x.set(0);
    c.due("50 LINES", x.pages(), 1);
    Check.text(x, "\n".repeat(51));
    x.set(0);
    c.due("51 LINES", x.pages(), 2);
    // refused: none of the three is another one
    x.measure(100, 50, 256);
    x.measure(100, 51, 7);
    x.measure(101, 2, 7);
    c.due("HEIGHT", x.pages(), 2);
    c.laid(x, 0, "a".repeat(98) + "a~aa", ones(99) + " 255", "1 1");
  }

  // ---- promise 13: LINES

  private void setNothing() {
    c.promise(13, "an empty TEXT");
    DotPress x = press(5);
    c.laid(x, 0, "a\na", "1", "1");
    c.done(x, "TEXT is empty", x.text(), 0);
    c.due("LINES stay until set()", x.lines(), 2);
    c.done(x, "set()", x.set(0), 0);
    c.due("lines()", x.lines(), 0);
    c.due("pages()", x.pages(), 0);
    c.refused(x, "no LINE", x.length(0), 2);
    c.refused(x, "3 of an empty TEXT", x.set(1), 3);
    c.due("finds(0)", x.finds(0), 2);
  }

  private void setOneByte() {
    c.promise(13, "a TEXT of one byte");
    DotPress x = press(5);
    c.laid(x, 0, "a", "1");
    c.laid(x, 0, " ", "");
    c.laid(x, 0, "~", "");
    c.laid(x, 0, "^", "");
    c.laid(x, 0, "\n", "");
    c.unknown(x, 0, "x", 0);
    c.unknown(x, 0, "!", 0);
    c.unknown(x, 0, "}", 0);
  }

  private void setFullText() {
    c.promise(13, "a TEXT of 500 bytes");
    DotPress x = press(100);
    Check.text(x, ("a".repeat(99) + " ").repeat(5));
    c.done(x, "five WORDS", x.set(0), 5);
    c.due("the last LINE", x.length(4), 99);
    Check.text(x, "a".repeat(199) + " " + "a".repeat(199) + " " + "a".repeat(100));
    c.done(x, "three WORDS", x.set(0), 3);
    c.due("the last LINE", x.length(2), 100);
    c.unknown(x, 0, ("a".repeat(99) + " ").repeat(4) + "a".repeat(99) + "x", 499);
    Check.rule(x, 0, 0, "a".repeat(8), 9);
    Check.text(x, "a".repeat(500));
    c.done(x, "one WORD of 500 LETTERS", x.set(0), 1);
    c.due("62 and 4 CELLS", x.length(0), 66);
    c.due("the last ones", x.cell(0, 62), 1);
  }

  private void setFits() {
    c.promise(13, "as long as they fit into WIDTH");
    for (int width : new int[] {1, 2, 3, 31, 32, 99, 100}) {
      c.laid(press(width), 0, "a".repeat(width), ones(width));
      c.laid(press(width), 0, "a".repeat(width) + " b", ones(width), "2");
      c.laid(press(width), 0, "a".repeat(width + 1), ones(width + 1));
      if (width > 2) {
        c.laid(press(width), 0, "a".repeat(width - 2) + " b", ones(width - 2) + " 0 2");
        c.laid(press(width), 0, "a".repeat(width - 2) + "  b ", ones(width - 2) + " 0 2");
      }
      if (width > 1) {
        c.laid(press(width), 0, "a".repeat(width - 1) + " b", ones(width - 1), "2");
      }
    }
  }

  private void setLetters() {
    c.promise(13, "LETTERS are bytes 33 to 125");
    DotPress x = press(9);
    Check.rule(x, 0, 0, "!", 33);
    Check.rule(x, 0, 0, "}", 125);
    Check.rule(x, 0, 0, "|", 124);
    c.laid(x, 0, "!}| !~}", "33 125 124 0 33 125");
    c.laid(x, 0, "~!~ ~}~", "33 0 125");
    c.laid(x, 0, "~~~ ~ ~~", "");
  }

  private void setLongRules() {
    c.promise(13, "a RULE of 8 LETTERS");
    DotPress x = press(9);
    Check.rule(x, 0, 0, "abcdeabc", 9);
    c.laid(x, 0, "abcdeabc", "9");
    c.laid(x, 0, "abcdeab", "1 2 3 4 5 1 2");
    c.laid(x, 0, "aabcdeabc", "1 9");
    c.laid(x, 0, "abcdeabca", "9 1");
    c.laid(x, 0, "abcdeab c", "1 2 3 4 5 1 2 0 3");
    c.laid(x, 0, "abcdeab\nc", "1 2 3 4 5 1 2", "3");
    c.laid(x, 0, "abcdeab~c", "9");
    for (int condition : new int[] {1, 3, 4}) {
      x.condition(0, 5, condition);
      c.laid(x, 0, "abcdeabc", "9");
    }
    for (int condition : new int[] {2, 5}) {
      x.condition(0, 5, condition);
      c.laid(x, 0, "abcdeabc", "1 2 3 4 5 1 2 3");
    }
  }

  // ---- promise 13: WORDS that are broken

  private void breaksFit() {
    c.promise(13, "the CELLS up to there, and the HYPHEN, still fit");
    c.laid(press(1), 0, "a~a", "1 1");
    c.laid(press(2), 0, "a~a", "1 1");
    c.laid(press(2), 0, "a~aa", "1 36", "1 1");
    c.laid(press(4), 0, "aaa~aa", "1 1 1 36", "1 1");
    c.laid(press(3), 0, "aaa~aa", "1 1 1 1 1");
    c.laid(press(5), 0, "aaa~aa", "1 1 1 1 1");
    // the last place that fits is taken
    c.laid(press(4), 0, "a~a~a~a~a", "1 1 1 36", "1 1");
    c.laid(press(3), 0, "a~a~a~a~a", "1 1 36", "1 1 1");
    c.laid(press(4), 0, "a~aa~aa", "1 1 1 36", "1 1");
    c.laid(press(3), 0, "a~aa~aa", "1 36", "1 1 36", "1 1");
    // no place ahead of the first LETTER or behind the last one
    c.laid(press(3), 0, "~aaaa~", "1 1 1 1");
    c.laid(press(3), 0, "~a~aaa~", "1 36", "1 1 1");
    c.laid(press(3), 0, "aa~~aa", "1 1 36", "1 1");
    // 99 and the HYPHEN fit into 100
    c.laid(press(100), 0, "a".repeat(99) + "~aa", ones(99) + " 36", "1 1");
    c.laid(press(100), 0, "a".repeat(100) + "~a", ones(101));
  }

  private void breaksBehindWords() {
    c.promise(13, "with the BLANK ahead");
    c.laid(press(6), 0, "b aaa~aa", "2 0 1 1 1 36", "1 1");
    c.laid(press(5), 0, "b aaa~aa", "2", "1 1 1 1 1");
    c.laid(press(4), 0, "b aaa~aa", "2", "1 1 1 36", "1 1");
    c.laid(press(3), 0, "b aaa~aa", "2", "1 1 1 1 1");
    c.laid(press(3), 0, "b a~a", "2", "1 1");
    c.laid(press(4), 0, "b a~a", "2 0 1 1");
    c.laid(press(4), 0, "b a~aa", "2 0 1 36", "1 1");
    // a LINE that is full, and one with one CELL free
    c.laid(press(3), 0, "bbb a~a", "2 2 2", "1 1");
    c.laid(press(4), 0, "bbb a~a", "2 2 2", "1 1");
    c.laid(press(5), 0, "bbb a~a", "2 2 2", "1 1");
    c.laid(press(6), 0, "bbb a~a", "2 2 2 0 1 1");
    c.laid(press(6), 0, "bbb a~aa", "2 2 2 0 1 36", "1 1");
  }

  private void breaksGoOn() {
    c.promise(13, "the rest comes into the next LINE, likewise");
    c.laid(press(3), 0, "aa~aa~aa~aa", "1 1 36", "1 1 36", "1 1 36", "1 1");
    c.laid(press(5), 0, "aa~aa~aa~aa", "1 1 1 1 36", "1 1 1 1");
    c.laid(press(3), 0, "aa~aaaa b", "1 1 36", "1 1 1 1", "2");
    c.laid(press(4), 0, "aaa~aa b", "1 1 1 36", "1 1 0 2");
    c.laid(press(4), 0, "aaa~aaa b", "1 1 1 36", "1 1 1", "2");
    c.laid(press(4), 0, "aaa~aa b~bb", "1 1 1 36", "1 1", "2 2 2");
    c.laid(press(5), 0, "aaa~aaa b~bb", "1 1 1 36", "1 1 1", "2 2 2");
    c.laid(press(6), 0, "aaaaa~aaa b~bb", "1 1 1 1 1 36", "1 1 1 0 2 36", "2 2");
    c.laid(press(2), 0, "a~a~a~a~a", "1 36", "1 36", "1 36", "1 1");
    c.laid(press(1), 0, "a~a~a", "1 1 1");
  }

  private void breaksOfManyCells() {
    c.promise(13, "CELLS of RULES stay together");
    DotPress x = press(5);
    Check.rule(x, 0, 0, "f", 6, 6, 6, 6);
    c.laid(x, 0, "f~f", "6 6 6 6 36", "6 6 6 6");
    c.laid(x, 0, "f~a", "6 6 6 6 1");
    c.laid(x, 0, "a~f~a", "1 36", "6 6 6 6 1");
    x.measure(4, 25, 36);
    c.laid(x, 0, "f~f", "6 6 6 6 6 6 6 6");
    c.laid(x, 0, "a~f~f", "1 36", "6 6 6 6 6 6 6 6");
    Check.indicator(x, 0, 0, 7, 7);
    c.laid(x, 0, "a~A~Aa", "1 36", "7 7 1 36", "7 7 1 1");
    c.laid(x, 0, "aa~A", "1 1 36", "7 7 1");
    c.laid(x, 0, "a~A", "1 7 7 1");
  }

  /** Where the WORD before could be broken is nothing to this one. */
  private void breaksOfOthers() {
    c.promise(13, "at a ~ between two of its LETTERS");
    DotPress x = press(8);
    Check.rule(x, 0, 0, "f", 6, 6, 6, 6);
    String four = "6 6 6 6";
    c.laid(x, 0, "aaaa~a ffff", "1 1 1 1 1", four + " " + four + " " + four + " " + four);
    c.laid(x, 0, "a~a~a~a~a fff", "1 1 1 1 1", four + " " + four + " " + four);
    c.laid(x, 0, "a~a~a~a~a fff~", "1 1 1 1 1", four + " " + four + " " + four);
    c.laid(x, 0, "a~a~a~a~a ~fff", "1 1 1 1 1", four + " " + four + " " + four);
    c.laid(x, 0, "a~a~a~a~a f~ff", "1 1 1 1 1", four + " 36", four + " " + four);
  }

  private void breaksOfShort() {
    c.promise(13, "3: in a WORD of 6 LETTERS or more alone");
    DotPress x = press(4);
    x.table(3, 8, 0);
    c.laid(x, 1, "aa~aaa", "1 1 1 1 1");
    c.laid(x, 1, "a~a~a~a~a", "1 1 1 1 1");
    c.laid(x, 1, "a~~~~~a~a~a~a~", "1 1 1 1 1");
    c.laid(x, 1, "aa~aaaa", "1 1 36", "1 1 1 1");
    c.laid(x, 1, "~a~a~a~a~a~a~", "1 1 1 36", "1 1 1");
    c.laid(x, 1, "aa~aa aa~aaa", "1 1 1 1", "1 1 1 1 1");
    // LETTERS count, not CELLS
    Check.rule(x, 0, 0, "de", 9);
    Check.rule(x, 0, 0, "f", 6, 6, 6);
    c.laid(x, 1, "dedede~de", "9 9 9 9");
    x.measure(3, 25, 36);
    c.laid(x, 1, "dede~dede", "9 9 36", "9 9");
    c.laid(x, 1, "f~ff", "6 6 6 6 6 6 6 6 6");
    // what is under a Short is not one
    x.table(1, 8, 1);
    c.laid(x, 2, "aa~aa", "1 1 36", "1 1");
  }

  private void breaksOfNumeric() {
    c.promise(13, "2: nor beside a digit");
    DotPress x = press(4);
    x.table(2, 8, 0);
    Check.rule(x, 1, 0, "0", 10);
    Check.rule(x, 1, 0, "9", 19);
    for (String digit : new String[] {"0", "9"}) {
      int cell = digit.equals("0") ? 10 : 19;
      c.laid(x, 1, "a" + digit + "~aaa", "1 " + cell + " 1 1 1");
      c.laid(x, 1, "aa~" + digit + "aa", "1 1 " + cell + " 1 1");
      c.laid(x, 1, digit + "a~a" + digit + "a", cell + " 1 36", "1 " + cell + " 1");
    }
    c.laid(x, 1, "aa~aaa", "1 1 36", "1 1 1");
    // the last place that is open is taken
    c.laid(x, 1, "a~a~0aaa", "1 36", "1 10 1 1 1");
    // a Contracted under a Numeric is none
    x.table(1, 8, 1);
    c.laid(x, 2, "aa~0aa", "1 1 36", "10 1 1");
  }

  private void neverBroken() {
    c.promise(13, "KIND 4 and 5 are not broken");
    DotPress x = press(3);
    x.table(4, 8, 0);
    Check.rule(x, 1, 0, "a", 1);
    int j = x.join(0, 0);
    for (int t : new int[] {1, j}) {
      c.laid(x, t, "aa~aa~aa", "1 1 1 1 1 1");
      c.laid(x, t, "a a~a", "1", "1 1");
      c.laid(x, t, "a aa~aa a", "1", "1 1 1 1", "1");
    }
  }

  private void longLines() {
    c.promise(13, "the LINE is LONG");
    DotPress x = press(3);
    c.laid(x, 0, "aaa", "1 1 1");
    c.laid(x, 0, "aaaa", "1 1 1 1");
    c.laid(x, 0, "aaaa b", "1 1 1 1", "2");
    c.laid(x, 0, "b aaaa", "2", "1 1 1 1");
    c.laid(x, 0, "b aaaa bb", "2", "1 1 1 1", "2 2");
    c.laid(x, 0, "aaaa aaaa", "1 1 1 1", "1 1 1 1");
    c.laid(x, 0, "\naaaa\n", "", "1 1 1 1");
    c.laid(x, 0, "aaaa\n\nb", "1 1 1 1", "", "2");
    // all that is left of it
    c.laid(x, 0, "a~aaaa~a", "1 36", "1 1 1 1 1");
    Check.text(x, "a".repeat(200));
    c.done(x, "200 CELLS", x.set(0), 1);
    c.due("they stay", x.length(0), 200);
  }

  // ---- promise 13: too many

  private void twoHundredLines() {
    c.promise(13, "a 201st LINE would begin");
    DotPress x = press(3);
    Check.text(x, "\n".repeat(200));
    c.done(x, "200 empty ones", x.set(0), 200);
    Check.text(x, "\n".repeat(199) + "a");
    c.done(x, "the 200th has no byte 10", x.set(0), 200);
    c.due("its CELL", x.cell(199, 0), 1);
    String[] tooMany = {"\n".repeat(201), "\n".repeat(200) + "a", "\n".repeat(200) + " ",
      "\n".repeat(200) + "^", "\n".repeat(199) + "aaa b", "\n".repeat(199) + "aa~aaaa",
      "\n".repeat(199) + "aaaa b", "\n".repeat(198) + "aa~aa~aaaa", "\n".repeat(500)};
    for (String text : tooMany) {
      Check.text(x, text);
      c.refused(x, "201 LINES", x.set(0), 6);
      c.due("LINES stay", x.cell(199, 0), 1);
    }
    String[] taken = {"\n".repeat(198) + "aaa b", "\n".repeat(198) + "aa~aaaa",
      "\n".repeat(198) + "aaaa b", "\n".repeat(197) + "aa~aa~aaaa", "\n".repeat(199) + "^"};
    for (String text : taken) {
      Check.text(x, text);
      c.done(x, "200 LINES", x.set(0), 200);
    }
  }

  private void twoHundredLinesOfOneWord() {
    c.promise(13, "a WORD in as many LINES as can be");
    DotPress x = press(2);
    String word = "a~".repeat(199) + "a";
    Check.text(x, word);
    c.done(x, "198 broken, and two CELLS", x.set(0), 199);
    c.same("the first", Check.line(x, 0), "1 36");
    c.same("the last", Check.line(x, 198), "1 1");
    Check.text(x, "b " + word);
    c.done(x, "behind another", x.set(0), 200);
    Check.text(x, "b\nb\n" + word);
    c.refused(x, "behind two", x.set(0), 6);
    c.due("finds(0): all was set", x.finds(0), 200 + 201 + 202);
    c.due("LINES stay", x.lines(), 200);
  }

  private void firstInText() {
    c.promise(13, "of what comes first in TEXT, 7 or 6");
    DotPress x = press(3);
    c.unknown(x, 0, "x" + "\n".repeat(300), 0);
    Check.text(x, "\n".repeat(200) + "x");
    c.refused(x, "6 comes first", x.set(0), 6);
    c.unknown(x, 0, "\n".repeat(199) + "x" + "\n".repeat(9), 199);
    c.unknown(x, 0, "a".repeat(200) + "x" + "a".repeat(9), 200);
    Check.text(x, "a".repeat(201) + "x");
    c.refused(x, "6 comes first", x.set(0), 6);
    c.unknown(x, 0, "x " + "a".repeat(201), 0);
    Check.text(x, "a".repeat(201) + " x");
    c.refused(x, "6 comes first", x.set(0), 6);
    // ^ and ~ and BLANKS are bytes of TEXT, too
    c.unknown(x, 0, "^ ~ ~a~x", 7);
    c.unknown(x, 0, "\n^\n ^", 4);
  }

  private void wordsAreSetAsTheyCome() {
    c.promise(13, "WORDS are set as they come into LINES");
    DotPress x = press(1);
    Check.text(x, "a ".repeat(200) + "a x");
    c.refused(x, "the 201st WORD begins a LINE", x.set(0), 6);
    c.due("it was set, what is behind it was not", x.finds(0), 201);
    Check.text(x, "a ".repeat(200) + "ax a");
    c.due("the 201st WORD is UNKNOWN", x.set(0), -1);
    c.due("status()", x.status(), 7);
    c.due("place()", x.place(), 401);
    c.due("finds(0)", x.finds(0), 201 + 202);
    Check.text(x, "\n".repeat(200) + "a");
    c.refused(x, "a 201st line of TEXT begins", x.set(0), 6);
    c.due("its WORDS are not set", x.finds(0), 201 + 202);
  }

  private void twoHundredCells() {
    c.promise(13, "a WORD would have more than 200 CELLS");
    DotPress x = press(100);
    Check.rule(x, 0, 0, "f", 6, 6, 6, 6);
    Check.rule(x, 0, 0, "g", 7, 7, 7);
    Check.text(x, "f".repeat(50));
    c.done(x, "50 times 4", x.set(0), 1);
    c.due("all in a LINE", x.length(0), 200);
    int finds = 50;
    String[] taken = {"a".repeat(200), "g".repeat(66) + "aa", "f".repeat(49) + "ga", "aa" + "g".repeat(66)};
    for (String word : taken) {
      Check.text(x, word);
      c.done(x, "200 CELLS", x.set(0), 1);
      c.due("all in a LINE", x.length(0), 200);
      finds += word.length();
    }
    c.due("finds(0)", x.finds(0), finds);
    String[] tooMany = {"a".repeat(201), "g".repeat(67), "f".repeat(50) + "a", "f".repeat(49) + "gaa",
      "f".repeat(49) + "gg", "aa" + "g".repeat(66) + "a", "a" + "f".repeat(50)};
    for (String word : tooMany) {
      // what stands behind is not looked at
      Check.text(x, word + "xxx aaa");
      c.refused(x, "more than 200 CELLS", x.set(0), 6);
      finds += word.length();
      c.due("finds(0)", x.finds(0), finds);
      c.due("LINES stay", x.length(0), 200);
    }
    // two WORDS may have more
    Check.text(x, "f".repeat(50) + " " + "f".repeat(50));
    c.done(x, "two WORDS", x.set(0), 2);
  }

  private void twoHundredCellsWithIndicators() {
    c.promise(13, "more than 200 CELLS with INDICATORS");
    DotPress x = press(100);
    x.table(2, 8, 0);
    Check.rule(x, 1, 0, "1", 11);
    Check.indicator(x, 1, 0, 20, 21);
    Check.indicator(x, 1, 1, 22, 23);
    Check.text(x, "a".repeat(197) + "A");
    c.done(x, "CAPITAL fits", x.set(1), 1);
    Check.text(x, "a".repeat(198) + "Ax");
    c.refused(x, "CAPITAL does not", x.set(1), 6);
    Check.text(x, "a".repeat(197) + "1");
    c.done(x, "NUMBER fits", x.set(1), 1);
    Check.text(x, "a".repeat(198) + "1x");
    c.refused(x, "NUMBER does not", x.set(1), 6);
    Check.text(x, "a".repeat(196) + "11");
    c.done(x, "it comes once", x.set(1), 1);
    // without a RULE behind it the byte is UNKNOWN, the CELLS are not looked at
    c.unknown(x, 1, "a".repeat(200) + "X", 200);
    c.unknown(x, 1, "a".repeat(200) + "2", 200);
  }

  private void twoHundredCellsOfJoined() {
    c.promise(13, "more than 200 CELLS of a Joined");
    DotPress x = press(100);
    int j = x.join(0, 0);
    Check.indicator(x, j, 2, 20, 20);
    Check.indicator(x, j, 3, 21);
    Check.text(x, "a".repeat(198) + "<");
    c.done(x, "CHANGE fits", x.set(j), 1);
    c.due("200 CELLS", x.length(0), 200);
    Check.text(x, "a".repeat(199) + "<");
    c.refused(x, "CHANGE does not", x.set(j), 6);
    Check.text(x, "a".repeat(199) + "<ax");
    c.refused(x, "nor what is behind it", x.set(j), 6);
    Check.text(x, "a".repeat(196) + "<a>");
    c.done(x, "BACK fits", x.set(j), 1);
    c.due("200 CELLS", x.length(0), 200);
    Check.text(x, "a".repeat(197) + "<a>");
    c.refused(x, "BACK does not", x.set(j), 6);
    Check.text(x, "a".repeat(100) + "<" + "a".repeat(98));
    c.done(x, "both parts", x.set(j), 1);
    Check.text(x, "a".repeat(100) + "<" + "a".repeat(99) + "x");
    c.refused(x, "both parts have too many", x.set(j), 6);
  }

  private void joinedParts() {
    c.promise(13, "parts of a Joined that are empty or of one");
    DotPress x = press(30);
    int second = Check.plain(x, "vw");
    int j = x.join(0, second);
    Check.indicator(x, j, 2, 20);
    Check.indicator(x, j, 3, 21);
    c.laid(x, j, "<", "20");
    c.laid(x, j, "<>", "20 21");
    c.laid(x, j, "<><>", "20 21 20 21");
    c.laid(x, j, "a<v", "1 20 1");
    c.laid(x, j, "a<v>a", "1 20 1 21 1");
    c.laid(x, j, "< <", "20 0 20");
    c.unknown(x, j, ">", 0);
    c.unknown(x, j, "<<", 1);
    c.unknown(x, j, "<>>", 2);
    c.unknown(x, j, "a<a", 2);
    c.unknown(x, j, "a<v>v", 4);
    // a part begins and ends as a WORD does
    x.condition(0, 0, 4);
    c.laid(x, j, "a<v>a<", "1 20 1 21 1 20");
    c.unknown(x, j, "aa", 0);
    c.unknown(x, j, "<v>aa", 3);
    c.done(x, "BACK is empty", x.indicator(j, 3), 0);
    c.laid(x, j, "a<v", "1 20 1");
    c.unknown(x, j, "a<v>", 3);
    c.unknown(x, j, "a<v>x", 3);
    c.done(x, "CHANGE is empty", x.indicator(j, 2), 0);
    c.unknown(x, j, "a<x", 1);
    c.laid(x, j, "a", "1");
  }

  // ---- promise 13: CENTRED

  private void centred() {
    c.promise(13, "half of what is free, rounded down");
    for (int width : new int[] {1, 2, 7, 8, 99, 100}) {
      for (int free : new int[] {0, 1, 2, 3, 4, 5}) {
        int cells = width - free;
        if (cells > 0) {
          c.laid(press(width), 0, "^" + "a".repeat(cells), "0 ".repeat(free / 2) + ones(cells));
        }
      }
      c.laid(press(width), 0, "^" + "a".repeat(width + 1), ones(width + 1));
      c.laid(press(width), 0, "^" + "a".repeat(200), ones(200));
    }
    c.laid(press(100), 0, "^a", "0 ".repeat(49) + "1");
  }

  private void centredMany() {
    c.promise(13, "each LINE of that line that has CELLS");
    DotPress x = press(6);
    c.laid(x, 0, "^\n^\na", "", "", "1");
    c.laid(x, 0, "^ \n^~\n^ a", "", "", "0 0 1");
    c.laid(x, 0, "^aaa bbb ccc\n^cc", "0 1 1 1", "0 2 2 2", "0 3 3 3", "0 0 3 3");
    c.laid(x, 0, "^aaaaaaa b", "1 1 1 1 1 1 1", "0 0 2");
    c.laid(x, 0, "^a~aaaaa b", "1 1 1 1 1 1", "0 0 2");
    c.laid(x, 0, "^aa~aaaaa b", "0 1 1 36", "1 1 1 1 1", "0 0 2");
    c.laid(x, 0, "a\n^a\na", "1", "0 0 1", "1");
    c.laid(x, 0, " a\n^a", "1", "0 0 1");
    c.unknown(x, 0, "^a\na^", 4);
    c.unknown(x, 0, "^^", 1);
    c.unknown(x, 0, "~^a", 1);
  }

  // ---- promise 14

  private void headBytes() {
    c.promise(14, "more than 40 bytes, or one that is no LETTER");
    DotPress x = press(100);
    Check.rule(x, 0, 0, "!", 33);
    Check.rule(x, 0, 0, "}", 125);
    c.done(x, "one", Check.head(x, 0, "a"), 1);
    c.done(x, "39", Check.head(x, 0, "a".repeat(39)), 39);
    c.done(x, "40", Check.head(x, 0, "a".repeat(40)), 40);
    c.refused(x, "41", Check.head(x, 0, "a".repeat(41)), 6);
    c.refused(x, "3000", Check.head(x, 0, "a".repeat(3000)), 6);
    c.done(x, "the first and last LETTER", Check.head(x, 0, "!}"), 2);
    for (int b : new int[] {0, 10, 31, 32, 126, 127, 255}) {
      Check.tape(x, "a", b);
      c.refused(x, "byte " + b, x.head(0), 6);
      Check.tape(x, "", b, 'a');
      c.refused(x, "byte " + b + " at first", x.head(0), 6);
      c.due("the TAPE is empty", x.end(1), -1);
    }
    for (int place : new int[] {0, 1, 39}) {
      c.due("UNKNOWN", Check.head(x, 0, "a".repeat(place) + "x"), -1);
      c.due("status()", x.status(), 7);
      c.due("place()", x.place(), place);
      c.due("the TAPE is empty", x.end(1), -1);
    }
  }

  private void headCells() {
    c.promise(14, "cut to WIDTH, and 200 CELLS");
    DotPress x = press(3);
    c.laid(x, 0, "b", "2");
    c.done(x, "less than WIDTH", Check.head(x, 0, "ab"), 2);
    c.done(x, "as WIDTH", Check.head(x, 0, "abc"), 3);
    c.done(x, "more than WIDTH", Check.head(x, 0, "abcd"), 3);
    c.done(x, "the last", x.page(0, 0, 2), 3);
    c.refused(x, "none behind", x.page(0, 0, 3), 2);
    x.measure(1, 2, 36);
    c.done(x, "WIDTH 1", Check.head(x, 0, "edcba"), 1);
    c.refused(x, "one CELL", x.page(0, 0, 1), 2);
    x.measure(100, 2, 36);
    c.due("the HEAD is as it was made", x.page(0, 0, 1), -1);
    Check.indicator(x, 0, 0, 1, 2, 3, 4);
    c.done(x, "40 times 5 CELLS are 200", Check.head(x, 0, "A".repeat(40)), 100);
    Check.rule(x, 0, 0, "f", 6, 6);
    c.refused(x, "201 CELLS", Check.head(x, 0, "A".repeat(39) + "F"), 6);
    c.due("the HEAD stays", x.page(0, 0, 99), 1);
    c.due("UNKNOWN ahead of too many", Check.head(x, 0, "X" + "F".repeat(39)), -1);
    c.due("status()", x.status(), 7);
    c.due("place()", x.place(), 0);
    c.refused(x, "too many ahead of UNKNOWN", Check.head(x, 0, "F".repeat(39) + "X"), 6);
  }

  private void headIsNone() {
    c.promise(14, "an empty TAPE");
    DotPress x = press(3);
    c.laid(x, 0, "b\nc", "2", "3");
    x.measure(3, 2, 36);
    c.done(x, "there was none", x.head(0), 0);
    c.due("PAGES", x.pages(), 1);
    Check.head(x, 0, "a");
    c.due("PAGES with it", x.pages(), 2);
    c.refused(x, "no TABLE", x.head(1), 3);
    c.due("it stays", x.pages(), 2);
    c.done(x, "none", x.head(0), 0);
    c.due("PAGES without it", x.pages(), 1);
    c.due("LINE 0", x.page(0, 0, 0), 2);
    c.due("finds(0)", x.finds(0), 2 + 1);
  }

  // ---- promises 15 to 19

  private void pages() {
    c.promise(16, "pages");
    DotPress x = press(1);
    int[] sizes = {0, 1, 2, 3, 49, 50, 51, 98, 99, 100, 199, 200};
    for (int n : sizes) {
      Check.text(x, "\n".repeat(n));
      x.head(0);
      c.done(x, n + " LINES", x.set(0), n);
      c.due("lines()", x.lines(), n);
      for (int height : new int[] {1, 2, 49, 50}) {
        x.measure(1, height, 36);
        c.due(n + " LINES, HEIGHT " + height, x.pages(), (n + height - 1) / height);
      }
      Check.head(x, 0, "a");
      for (int height : new int[] {1, 2, 49, 50}) {
        x.measure(1, height, 36);
        int each = Math.max(1, height - 1);
        c.due(n + " LINES with a HEAD, HEIGHT " + height, x.pages(), (n + each - 1) / each);
      }
    }
    c.promise(15, "lines(), lacking ones too");
    x.lose(0);
    x.lose(199);
    c.due("lines()", x.lines(), 200);
    c.due("pages()", x.pages(), 5);
  }

  private void page() {
    c.promise(19, "page");
    DotPress x = press(3);
    c.laid(x, 0, "a\nb\nc\nd\nab", "1", "2", "3", "4", "1 2");
    x.measure(3, 2, 36);
    c.done(x, "the first", x.page(0, 0, 0), 1);
    c.done(x, "the last of the first", x.page(0, 1, 0), 2);
    c.done(x, "the first of the second", x.page(1, 0, 0), 3);
    c.done(x, "the last", x.page(2, 0, 1), 2);
    c.refused(x, "no CELL", x.page(2, 0, 2), 2);
    c.refused(x, "no LINE on the last PAGE", x.page(2, 1, 0), 2);
    c.refused(x, "no PAGE", x.page(3, 0, 0), 2);
    c.refused(x, "the next PAGE's LINE", x.page(0, 2, 0), 2);
    for (int n : new int[] {-1, MIN, MIN + 1, MAX, MAX - 1}) {
      c.refused(x, "PAGE " + n, x.page(n, 0, 0), 2);
      c.refused(x, "LINE " + n, x.page(0, n, 0), 2);
      c.refused(x, "CELL " + n, x.page(0, 0, n), 2);
      c.refused(x, "all " + n, x.page(n, n, n), 2);
    }
    // these times 2 would wrap around to LINE 0 and 2
    c.refused(x, "PAGE 2^30", x.page(1 << 30, 0, 0), 2);
    c.refused(x, "PAGE 2^30 + 1", x.page((1 << 30) + 1, 0, 0), 2);
    c.refused(x, "PAGE -2^30", x.page(-(1 << 30), 0, 0), 2);
    c.refused(x, "PAGE 1, LINE -1", x.page(1, -1, 0), 2);
    x.lose(1);
    c.refused(x, "lacking", x.page(0, 1, 0), 1);
    c.refused(x, "1 ahead of 2", x.page(0, 1, -1), 1);
    c.refused(x, "1 ahead of 2", x.page(0, 1, MAX), 1);
    c.refused(x, "2 ahead of 1", x.page(-1, 1, 0), 2);
    x.measure(3, 5, 36);
    c.done(x, "a full PAGE", x.page(0, 4, 0), 1);
    c.refused(x, "no such PAGE", x.page(1, 0, 0), 2);
    x.measure(3, 1, 36);
    c.done(x, "PAGES of one LINE", x.page(4, 0, 0), 1);
    c.refused(x, "one LINE", x.page(3, 1, 0), 2);
    c.refused(x, "no such PAGE", x.page(5, 0, 0), 2);
  }

  private void pageOfHead() {
    c.promise(19, "page with a HEAD");
    DotPress x = press(3);
    Check.head(x, 0, "ed");
    c.refused(x, "no LINES: no PAGE, and no HEAD", x.page(0, 0, 0), 2);
    c.laid(x, 0, "a\nb\nc", "1", "2", "3");
    x.measure(3, 2, 36);
    for (int p = 0; p < 3; p++) {
      c.done(x, "the HEAD", x.page(p, 0, 0), 5);
      c.done(x, "its last", x.page(p, 0, 1), 4);
      c.refused(x, "none behind", x.page(p, 0, 2), 2);
      c.refused(x, "none ahead", x.page(p, 0, -1), 2);
      c.done(x, "the LINE", x.page(p, 1, 0), p + 1);
      c.refused(x, "one LINE", x.page(p, 2, 0), 2);
      c.refused(x, "LINE -1", x.page(p, -1, 0), 2);
    }
    c.refused(x, "no such PAGE has no HEAD", x.page(3, 0, 0), 2);
    x.lose(2);
    c.done(x, "the HEAD ahead of a lacking one", x.page(2, 0, 0), 5);
    c.refused(x, "lacking", x.page(2, 1, 0), 1);
    x.measure(3, 1, 36);
    c.done(x, "HEIGHT 1: no HEAD", x.page(0, 0, 0), 1);
    c.refused(x, "HEIGHT 1: lacking", x.page(2, 0, 0), 1);
    x.measure(3, 50, 36);
    c.done(x, "HEIGHT 50", x.page(0, 2, 0), 2);
    c.refused(x, "no LINE 4", x.page(0, 4, 0), 2);
    c.refused(x, "no LINE 49", x.page(0, 49, 0), 2);
    c.refused(x, "no LINE 50", x.page(0, 50, 0), 2);
  }

  private void lengthAndCell() {
    c.promise(17, "length");
    DotPress x = press(3);
    Check.text(x, "a".repeat(200) + "\n" + "\n".repeat(198) + "b");
    c.done(x, "200 LINES", x.set(0), 200);
    c.done(x, "a full one", x.length(0), 200);
    c.done(x, "an empty one", x.length(1), 0);
    c.done(x, "the last one", x.length(199), 1);
    for (int l : new int[] {-1, 200, MAX, MIN}) {
      c.refused(x, "LINE " + l, x.length(l), 2);
      c.refused(x, "LINE " + l, x.cell(l, 0), 2);
      c.refused(x, "LINE " + l + ", no CELL", x.cell(l, -1), 2);
    }
    c.promise(18, "cell");
    c.done(x, "the first", x.cell(0, 0), 1);
    c.done(x, "the last", x.cell(0, 199), 1);
    c.done(x, "the only one", x.cell(199, 0), 2);
    for (int i : new int[] {-1, 200, 201, MAX, MIN}) {
      c.refused(x, "CELL " + i, x.cell(0, i), 2);
      c.refused(x, "CELL " + i, x.cell(199, i), 2);
      c.refused(x, "CELL " + i + " of none", x.cell(1, i), 2);
    }
    c.refused(x, "CELL 0 of none", x.cell(1, 0), 2);
    c.refused(x, "CELL 1 of one", x.cell(199, 1), 2);
    x.lose(0);
    c.refused(x, "lacking", x.length(0), 1);
    c.refused(x, "lacking", x.cell(0, 0), 1);
    c.refused(x, "lacking, ahead of no CELL", x.cell(0, 200), 1);
    c.done(x, "the next one", x.length(1), 0);
  }

  // ---- promises 20 to 26

  private void cut() {
    c.promise(20, "cut");
    DotPress x = press(3);
    c.laid(x, 0, "abc\n\nd", "1 2 3", "", "4");
    c.done(x, "as long as it is", x.cut(0, 3), 3);
    c.same("LINE", Check.line(x, 0), "1 2 3");
    c.done(x, "one less", x.cut(0, 2), 2);
    c.done(x, "one more", x.cut(0, 3), 3);
    c.same("a BLANK, not what was cut off", Check.line(x, 0), "1 2 0");
    c.done(x, "an empty one", x.cut(1, 0), 0);
    c.done(x, "an empty one gets BLANKS", x.cut(1, 2), 2);
    c.same("LINE", Check.line(x, 1), "0 0");
    c.done(x, "199", x.cut(2, 199), 199);
    c.done(x, "200", x.cut(2, 200), 200);
    c.done(x, "the first stays", x.cell(2, 0), 4);
    c.done(x, "the last", x.cell(2, 199), 0);
    c.done(x, "0", x.cut(2, 0), 0);
    c.due("length", x.length(2), 0);
    c.refused(x, "no CELL", x.cell(2, 0), 2);
    for (int n : new int[] {201, 202, MAX}) {
      c.refused(x, n + " CELLS", x.cut(0, n), 6);
      c.refused(x, "6 ahead of 2", x.cut(3, n), 6);
      c.refused(x, "6 ahead of 2", x.cut(MIN, n), 6);
    }
    for (int n : new int[] {-1, -200, MIN}) {
      c.refused(x, n + " CELLS", x.cut(0, n), 5);
      c.refused(x, "5 ahead of 2", x.cut(3, n), 5);
    }
    for (int l : new int[] {-1, 3, MAX, MIN}) {
      c.refused(x, "LINE " + l, x.cut(l, 0), 2);
      c.refused(x, "LINE " + l, x.cut(l, 200), 2);
    }
    c.same("refused ones left it", Check.line(x, 0), "1 2 0");
    x.lose(0);
    c.refused(x, "lacking", x.cut(0, 0), 1);
    c.refused(x, "6 ahead of 1", x.cut(0, 201), 6);
    c.refused(x, "5 ahead of 1", x.cut(0, -1), 5);
    c.refused(x, "it is lacking still", x.length(0), 1);
  }

  private void lose() {
    c.promise(21, "lose");
    DotPress x = press(3);
    c.laid(x, 0, "a", "1");
    for (int l : new int[] {-1, 1, MAX, MIN}) {
      c.refused(x, "LINE " + l, x.lose(l), 2);
    }
    c.done(x, "it is there still", x.length(0), 1);
    c.done(x, "the only one", x.lose(0), 1);
    c.done(x, "again", x.lose(0), 1);
    c.due("lines()", x.lines(), 1);
    c.due("pages()", x.pages(), 1);
    c.refused(x, "1", x.length(0), 1);
    c.refused(x, "beyond it", x.lose(1), 2);
    c.done(x, "emboss() passes it", x.emboss(0, 1), 0);
    c.done(x, "set() makes all anew", x.set(0), 1);
    c.done(x, "it is there", x.length(0), 1);
    c.done(x, "and again", x.set(0), 1);
    c.done(x, "it is there", x.length(0), 1);
    x.lose(0);
    Check.text(x, "x");
    c.due("refused", x.set(0), -1);
    c.refused(x, "it is lacking still", x.length(0), 1);
  }

  private void copyRow() {
    c.promise(22, "copyRow");
    DotPress x = press(5);
    c.laid(x, 0, "abc\nde\n\na", "1 2 3", "4 5", "", "1");
    c.done(x, "all", x.copyRow(1, 0, 0, 1, 2), 2);
    c.same("LINE 0", Check.line(x, 0), "1 4 5");
    c.done(x, "the last to the last", x.copyRow(1, 1, 0, 2, 1), 1);
    c.done(x, "none, at the end", x.copyRow(0, 3, 1, 2, 0), 0);
    c.done(x, "none of none", x.copyRow(2, 0, 2, 0, 0), 0);
    c.done(x, "none to none", x.copyRow(0, 0, 2, 0, 0), 0);
    c.refused(x, "one of none", x.copyRow(2, 0, 0, 0, 1), 2);
    c.refused(x, "one to none", x.copyRow(0, 0, 2, 0, 1), 2);
    c.refused(x, "from beyond its end", x.copyRow(0, 4, 1, 0, 0), 2);
    c.refused(x, "to beyond its end", x.copyRow(0, 0, 1, 3, 0), 2);
    c.refused(x, "one more than there are", x.copyRow(1, 0, 0, 0, 3), 2);
    c.refused(x, "one more than have room", x.copyRow(0, 0, 1, 0, 3), 2);
    c.refused(x, "one more than there are", x.copyRow(0, 1, 0, 0, 3), 2);
    c.refused(x, "one more than have room", x.copyRow(0, 0, 0, 1, 3), 2);
    for (int n : new int[] {-1, MIN, MIN + 1}) {
      c.refused(x, "n " + n, x.copyRow(0, 0, 1, 0, n), 2);
      c.refused(x, "at " + n, x.copyRow(0, n, 1, 0, 1), 2);
      c.refused(x, "place " + n, x.copyRow(0, 0, 1, n, 1), 2);
      c.refused(x, "at and n " + n, x.copyRow(0, n, 1, 0, n), 2);
      c.refused(x, "at " + n + ", none", x.copyRow(0, n, 1, 0, 0), 2);
    }
    for (int n : new int[] {MAX, MAX - 1}) {
      c.refused(x, "n " + n, x.copyRow(0, 3, 1, 2, n), 2);
      c.refused(x, "at " + n, x.copyRow(0, n, 1, 0, 2), 2);
      c.refused(x, "place " + n, x.copyRow(0, 0, 1, n, 2), 2);
      c.refused(x, "all " + n, x.copyRow(0, n, 1, n, n), 2);
    }
    c.same("refused ones left it", Check.line(x, 0), "1 4 5");
    c.same("refused ones left it", Check.line(x, 1), "4 5");
  }

  private void copyRowOfFull() {
    c.promise(22, "as they were ahead of it");
    DotPress x = press(5);
    Check.text(x, "abcd".repeat(50));
    x.set(0);
    c.done(x, "199 on by one", x.copyRow(0, 0, 0, 1, 199), 199);
    c.same("the first ones", x.cell(0, 0) + " " + x.cell(0, 1) + " " + x.cell(0, 2), "1 1 2");
    c.same("the last ones", x.cell(0, 198) + " " + x.cell(0, 199), "2 3");
    c.done(x, "199 back by one", x.copyRow(0, 1, 0, 0, 199), 199);
    c.same("the first ones", x.cell(0, 0) + " " + x.cell(0, 1) + " " + x.cell(0, 2), "1 2 3");
    c.same("the last ones", x.cell(0, 198) + " " + x.cell(0, 199), "3 3");
    c.done(x, "200 in place", x.copyRow(0, 0, 0, 0, 200), 200);
    c.refused(x, "201", x.copyRow(0, 0, 0, 0, 201), 2);
    c.refused(x, "200 on by one", x.copyRow(0, 0, 0, 1, 200), 2);
    x.lose(0);
    c.refused(x, "lacking", x.copyRow(0, 0, 0, 0, 200), 1);
    c.refused(x, "1 ahead of CELLS", x.copyRow(0, 0, 0, 0, -1), 1);
    c.refused(x, "2 ahead of 1", x.copyRow(0, 0, 1, 0, 1), 2);
    c.refused(x, "2 ahead of 1", x.copyRow(1, 0, 0, 0, 1), 2);
  }

  private void copyLines() {
    c.promise(23, "n from 0 to 10");
    DotPress x = press(5);
    c.due("copied() at first", x.copied(), 0);
    Check.text(x, "a\n".repeat(10) + "b\n".repeat(10));
    c.done(x, "20 LINES", x.set(0), 20);
    c.done(x, "10", x.copyLines(0, 10, 10), 10);
    c.due("copied()", x.copied(), 10);
    c.done(x, "the last one", x.cell(19, 0), 1);
    c.refused(x, "11", x.copyLines(0, 9, 11), 6);
    c.due("copied() is that of the one before", x.copied(), 10);
    c.refused(x, "MAX", x.copyLines(0, 0, MAX), 6);
    c.refused(x, "-1", x.copyLines(0, 0, -1), 5);
    c.refused(x, "MIN", x.copyLines(0, 0, MIN), 5);
    c.due("copied() is that of the one before", x.copied(), 10);
    c.done(x, "one", x.copyLines(19, 0, 1), 1);
    c.due("copied()", x.copied(), 1);
    c.done(x, "none", x.copyLines(0, 0, 0), 0);
    c.due("copied()", x.copied(), 0);
    x.copyLines(0, 0, 3);
    c.done(x, "none, far off", x.copyLines(MAX, MIN, 0), 0);
    c.due("copied()", x.copied(), 0);
    c.done(x, "in place", x.copyLines(5, 5, 10), 10);
    // one by one: the first is spread
    c.laid(x, 0, "a\nb\nc\nd", "1", "2", "3", "4");
    c.done(x, "on by one", x.copyLines(0, 1, 3), 3);
    c.same("the last", Check.line(x, 3), "1");
    c.laid(x, 0, "a\nb\nc\nd", "1", "2", "3", "4");
    c.done(x, "back by one", x.copyLines(1, 0, 3), 3);
    c.same("the first", Check.line(x, 0), "2");
    c.same("the last but one", Check.line(x, 2), "4");
    // as rows of their own
    x.cut(3, 3);
    c.same("the last but one", Check.line(x, 2), "4");
    x.lose(3);
    c.done(x, "it is there", x.length(2), 1);
  }

  private void copyLinesStops() {
    c.promise(23, "it stops, those ahead being copied");
    DotPress x = press(5);
    c.laid(x, 0, "a\nb\nc\nd\ne", "1", "2", "3", "4", "5");
    for (int l : new int[] {-1, 5, MAX, MIN}) {
      x.copyLines(0, 0, 2);
      c.refused(x, "from " + l, x.copyLines(l, 0, 1), 2);
      c.due("copied()", x.copied(), 0);
      x.copyLines(0, 0, 2);
      c.refused(x, "to " + l, x.copyLines(0, l, 10), 2);
      c.due("copied()", x.copied(), 0);
    }
    c.refused(x, "MAX, and on", x.copyLines(MAX, 0, 10), 2);
    c.refused(x, "MAX, and on", x.copyLines(0, MAX, 10), 2);
    c.refused(x, "from -1 it does not come to 0", x.copyLines(-1, 2, 3), 2);
    c.same("LINE 3 stays", Check.line(x, 3), "4");
    c.refused(x, "the last one is there", x.copyLines(4, 0, 2), 2);
    c.due("copied()", x.copied(), 1);
    c.same("LINE 0", Check.line(x, 0), "5");
    c.refused(x, "the last one to come to", x.copyLines(1, 4, 2), 2);
    c.due("copied()", x.copied(), 1);
    c.same("LINE 4", Check.line(x, 4), "2");
    x.lose(2);
    c.refused(x, "what is to come is lacking", x.copyLines(1, 0, 2), 1);
    c.due("copied()", x.copied(), 1);
    c.same("LINE 0", Check.line(x, 0), "2");
    c.same("LINE 1 stays", Check.line(x, 1), "2");
    c.refused(x, "2 of to ahead of 1 of from", x.copyLines(2, 5, 1), 2);
    c.refused(x, "1", x.copyLines(2, 2, 1), 1);
    c.done(x, "in place of a lacking one", x.copyLines(3, 2, 1), 1);
    c.same("LINE 2", Check.line(x, 2), "4");
    c.promise(24, "copied");
    c.refused(x, "n above 10", x.copyLines(0, 0, 11), 6);
    c.due("copied()", x.copied(), 1);
    c.due("copied() leaves STATUS", x.status(), 6);
    c.done(x, "set() leaves copied()", x.set(0), 5);
    c.due("copied()", x.copied(), 1);
  }

  private void emboss() {
    c.promise(25, "emboss");
    DotPress x = press(3);
    Check.rule(x, 0, 0, "f", 255);
    c.laid(x, 0, "fff\n\nffff\nf", "255 255 255", "", "255 255 255 255", "255");
    c.done(x, "as long as WIDTH", x.emboss(0, 1), 24);
    c.done(x, "without CELLS", x.emboss(1, 1), 0);
    c.due("closed()", x.closed(), 2);
    c.done(x, "one more than WIDTH", x.emboss(2, 1), 0);
    c.done(x, "behind it, it is done", x.emboss(0, 4), 24);
    c.due("closed()", x.closed(), 6);
    c.done(x, "what is not there is not come to", x.emboss(0, 200), 24);
    c.due("closed()", x.closed(), 9);
    x.lose(2);
    c.done(x, "a lacking one is passed, though it was too long", x.emboss(0, 4), 32);
    c.due("closed()", x.closed(), 13);
    c.refused(x, "one more is not there", x.emboss(0, 5), 2);
    c.due("closed()", x.closed(), 18);
    for (int from : new int[] {-1, 4, MAX, MIN}) {
      int closed = x.closed();
      c.refused(x, "from " + from, x.emboss(from, 1), 2);
      c.due("closed()", x.closed(), closed + 1);
      c.refused(x, "from " + from + ", and on", x.emboss(from, 200), 2);
      c.due("closed()", x.closed(), closed + 2);
      c.done(x, "none from " + from, x.emboss(from, 0), 0);
      c.due("closed()", x.closed(), closed + 2);
      c.refused(x, "201 from " + from, x.emboss(from, 201), 6);
      c.refused(x, "-1 from " + from, x.emboss(from, -1), 5);
      c.due("closed()", x.closed(), closed + 2);
    }
    c.refused(x, "MAX", x.emboss(0, MAX), 6);
    c.refused(x, "MIN", x.emboss(0, MIN), 5);
    c.promise(26, "closed");
    c.due("closed()", x.closed(), 26);
    c.due("closed() leaves STATUS", x.status(), 5);
    x.measure(4, 9, 9);
    c.laid(x, 0, "ffff", "255 255 255 255");
    c.done(x, "WIDTH as it is now", x.emboss(0, 1), 32);
    x.measure(1, 9, 9);
    c.done(x, "WIDTH as it is now", x.emboss(0, 1), 0);
    c.due("closed() goes on", x.closed(), 28);
  }

  private void embossMany() {
    c.promise(25, "n up to 200");
    DotPress x = press(3);
    Check.text(x, "c\n".repeat(200));
    c.done(x, "200 LINES", x.set(0), 200);
    c.done(x, "200", x.emboss(0, 200), 400);
    c.due("closed()", x.closed(), 200);
    c.refused(x, "201", x.emboss(0, 201), 6);
    c.due("closed()", x.closed(), 200);
    c.refused(x, "200 from 1 on", x.emboss(1, 200), 2);
    c.due("closed()", x.closed(), 400);
    c.done(x, "the last", x.emboss(199, 1), 2);
    x.lose(199);
    c.done(x, "the last is lacking", x.emboss(198, 2), 2);
    c.due("closed()", x.closed(), 403);
  }

  /** What a LINE had before it became shorter has no dots any more. */
  private void embossShortened() {
    c.promise(25, "dots of the CELLS that a LINE has");
    DotPress x = press(9);
    Check.rule(x, 0, 0, "f", 255);
    c.laid(x, 0, "fffff\na", "255 255 255 255 255", "1");
    c.done(x, "all", x.emboss(0, 2), 41);
    for (int n = 4; n >= 0; n--) {
      x.cut(0, n);
      c.done(x, "the first " + n, x.emboss(0, 2), 8 * n + 1);
    }
    c.laid(x, 0, "fffff\nfffff", "255 255 255 255 255", "255 255 255 255 255");
    c.laid(x, 0, "fffff\nfffff", "255 255 255 255 255", "255 255 255 255 255");
    c.laid(x, 0, "a", "1");
    c.done(x, "set anew", x.emboss(0, 1), 1);
    c.laid(x, 0, "a\nfffff", "1", "255 255 255 255 255");
    x.copyLines(0, 1, 1);
    c.done(x, "copied", x.emboss(1, 1), 1);
  }
}
