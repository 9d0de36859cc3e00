import java.nio.charset.StandardCharsets;

/** What the tests share: telling answers that are not due, and feeding the TAPE. */
final class Check {
  private int wrong = 0;
  private int calls = 0;
  private String about = "";

  /** Names the promise that the next answers belong to. */
  void promise(int number, String what) {
    about = "promise " + number + " (" + what + ")";
  }

  void due(String call, long got, long want) {
    calls++;
    if (got != want) {
      wrong++;
      System.out.println(about + ": " + call + " answered " + got + ", due is " + want);
    }
  }

  /** A refused call: the answer, STATUS, and a place that is none. */
  void refused(DotPress x, String call, int got, int status) {
    due(call, got, -1);
    due("status() behind " + call, x.status(), status);
    due("place() behind " + call, x.place(), -1);
  }

  /** A call that is done: the answer, and STATUS 0. */
  void done(DotPress x, String call, int got, int want) {
    due(call, got, want);
    due("status() behind " + call, x.status(), 0);
    due("place() behind " + call, x.place(), -1);
  }

  void end(String name) {
    System.out.println(name + ": " + calls + " answers, " + wrong + " not as due");
    if (wrong != 0) {
      System.exit(1);
    }
  }

  /** The bytes of a text, and numbers, come to the TAPE as they are. */
  static void tape(DotPress x, String letters, int... cells) {
    byte[] text = letters.getBytes(StandardCharsets.ISO_8859_1);
    byte[] all = new byte[text.length + cells.length];
    System.arraycopy(text, 0, all, 0, text.length);
    for (int i = 0; i < cells.length; i++) {
      all[text.length + i] = (byte) cells[i];
    }
    feedAll(x, all);
  }

  static void feedAll(DotPress x, byte[] all) {
    for (int i = 0; i < all.length; i += 20) {
      x.feed(four(all, i), four(all, i + 4), four(all, i + 8), four(all, i + 12), four(all, i + 16));
    }
    x.end(all.length);
  }

  static int four(byte[] all, int from) {
    int bytes = 0;
    for (int i = from; i < from + 4; i++) {
      bytes = bytes << 8 | (i < all.length ? all[i] & 255 : 0);
    }
    return bytes;
  }

  static int rule(DotPress x, int t, int condition, String letters, int... cells) {
    tape(x, letters, cells);
    return x.rule(t, condition, letters.length());
  }

  static int indicator(DotPress x, int t, int which, int... cells) {
    tape(x, "", cells);
    return x.indicator(t, which);
  }

  /** TEXT becomes this. */
  static int text(DotPress x, String text) {
    x.text();
    tape(x, text);
    return text.isEmpty() ? 0 : x.text();
  }

  static int head(DotPress x, int t, String letters) {
    tape(x, letters);
    return x.head(t);
  }

  /** A TABLE of KIND 0 in which each of these LETTERS has the CELL of its place, from 1 on. */
  static int plain(DotPress x, String letters) {
    int t = x.table(0, 8, 0);
    for (int i = 0; i < letters.length(); i++) {
      rule(x, t, 0, letters.substring(i, i + 1), i + 1);
    }
    return t;
  }

  /**
   * Makes LINES of these CELLS, and one of BLANKS behind them: by a TABLE that has a LETTER for
   * each CELL, and is taken back; the BLANKS come in by copying.
   */
  static void lay(DotPress x, int[]... lines) {
    int changes = 1;
    int t = x.table(0, 8, 0);
    StringBuilder text = new StringBuilder();
    for (int[] line : lines) {
      for (int cell : line) {
        if (cell != 0) {
          char letter = (char) ('!' + changes);
          rule(x, t, 0, String.valueOf(letter), cell);
          text.append(letter);
          changes++;
        }
      }
      text.append('\n');
    }
    text(x, text.append('\n').toString());
    x.set(t);
    for (int l = 0; l < lines.length; l++) {
      spread(x, l, lines[l], lines.length);
    }
    for (int i = 0; i < changes; i++) {
      x.undo();
    }
  }

  private static void spread(DotPress x, int l, int[] cells, int blanks) {
    int from = x.length(l);
    x.cut(l, cells.length);
    x.cut(blanks, 1);
    for (int i = cells.length - 1; i >= 0; i--) {
      from -= cells[i] == 0 ? 0 : 1;
      x.copyRow(cells[i] == 0 ? blanks : l, cells[i] == 0 ? 0 : from, l, i, 1);
    }
  }

  /** A LINE as a text of its CELLS. */
  static String line(DotPress x, int l) {
    StringBuilder all = new StringBuilder();
    int n = x.length(l);
    if (n < 0) {
      return "none";
    }
    for (int i = 0; i < n; i++) {
      all.append(i == 0 ? "" : " ").append(x.cell(l, i));
    }
    return all.toString();
  }

  static String bytesRead(DotPress x) {
    StringBuilder all = new StringBuilder();
    for (int i = 0; i < 4001; i++) {
      int b = x.letter(i);
      if (b < 0) {
        break;
      }
      all.append((char) b);
    }
    return all.toString();
  }

  static String reading(DotPress x, int k) {
    StringBuilder all = new StringBuilder();
    for (int i = 0; i < 1000; i++) {
      int b = x.reading(k, i);
      if (b < 0) {
        break;
      }
      all.append((char) b);
    }
    return all.toString();
  }

  /** TEXT, set by a TABLE, gives these LINES. */
  void laid(DotPress x, int t, String text, String... lines) {
    text(x, text);
    done(x, "set of [" + text + "]", x.set(t), lines.length);
    due("lines()", x.lines(), lines.length);
    for (int l = 0; l < lines.length; l++) {
      same("LINE " + l + " of [" + text + "]", line(x, l), lines[l]);
    }
  }

  /** TEXT has an UNKNOWN byte at this place. */
  void unknown(DotPress x, int t, String text, int place) {
    text(x, text);
    int lines = x.lines();
    due("set of [" + text + "]", x.set(t), -1);
    due("status()", x.status(), 7);
    due("place() in [" + text + "]", x.place(), place);
    due("LINES stay", x.lines(), lines);
  }

  void same(String what, String got, String want) {
    calls++;
    if (!got.equals(want)) {
      wrong++;
      System.out.println(about + ": " + what + " is [" + got + "], due is [" + want + "]");
    }
  }
}
