import java.util.Random;

/**
 * Chance calls (the same ones each time) on objects that are nearly full, with numbers at the edges
 * of what is taken and at the ends of the ints' range, DotPress held against Model.
 */
public final class EdgeFuzzTest {
  private static final int RUNS = 1500;
  private static final int CALLS = 500;
  private static final int[] ENDS = {
    Integer.MIN_VALUE, Integer.MIN_VALUE + 1, -1001, -2, Integer.MAX_VALUE - 1, Integer.MAX_VALUE
  };

  private final Random random;
  private final DotPress press = new DotPress();
  private final Model model = new Model();
  private final StringBuilder story = new StringBuilder();
  private int calls = 0;
  private boolean isRight = true;

  private EdgeFuzzTest(int seed) {
    random = new Random(seed);
  }

  public static void main(String[] args) {
    long all = 0;
    for (int seed = 0; seed < RUNS; seed++) {
      EdgeFuzzTest run = new EdgeFuzzTest(seed);
      run.play();
      all += run.calls;
      if (!run.isRight) {
        System.out.println("run " + seed + ":\n" + run.story);
        System.exit(1);
      }
    }
    System.out.println("EdgeFuzzTest: " + all + " answers as the model's");
  }

  private int below(int n) {
    return random.nextInt(n);
  }

  private int call(String name, int... a) {
    calls++;
    int got = Calls.on(press, name, a);
    int want = model.call(name, a);
    story.append(name).append(java.util.Arrays.toString(a)).append(" -> ").append(got);
    if (got != want) {
      story.append(", the model says ").append(want);
      isRight = false;
    }
    story.append('\n');
    return got;
  }

  /** A number next to one of these, mostly; or at an end of the range. */
  private int near(int... edges) {
    int edge = edges[below(edges.length)];
    switch (below(8)) {
      case 0: return edge - 1;
      case 1: return edge + 1;
      case 2: return below(4) == 0 ? ENDS[below(ENDS.length)] : edge;
      default: return edge;
    }
  }

  private void feed(String text, int... cells) {
    byte[] all = new byte[text.length() + cells.length];
    for (int i = 0; i < all.length; i++) {
      all[i] = (byte) (i < text.length() ? text.charAt(i) : cells[i - text.length()]);
    }
    for (int i = 0; i < all.length; i += 20) {
      call("feed", Check.four(all, i), Check.four(all, i + 4), Check.four(all, i + 8),
          Check.four(all, i + 12), Check.four(all, i + 16));
    }
    call("end", near(all.length, all.length, all.length, all.length, all.length, all.length, 0));
  }

  private void play() {
    makeTables();
    makeText();
    call("measure", near(1, 2, 100), near(1, 2, 50), near(1, 36, 255));
    call("set", 0);
    while (calls < CALLS && isRight) {
      act();
      call("status");
      call("place");
      if (below(5) == 0) {
        call("digest");
      }
    }
  }

  /** a to c, 1 and long RULES; one of each KIND, and mostly many others. */
  private void makeTables() {
    call("table", 0, 8, 0);
    String[] letters = {"a", "b", "c", "abcabcab", "z"};
    int[][] cells = {{1}, {2}, {3}, {4}, {5, 5, 5, 5}};
    for (int i = 0; i < letters.length; i++) {
      feed(letters[i], cells[i]);
      call("rule", 0, below(5) == 0 ? near(0, 5) : 0, letters[i].length());
    }
    feed("", below(2) == 0 ? new int[] {7} : new int[] {7, 7, 7, 7});
    call("indicator", 0, 0);
    for (int kind = 1; kind <= 4; kind++) {
      call("table", kind, 8, 0);
    }
    feed("1", 8);
    call("rule", 2, 0, 1);
    feed("", 9);
    call("indicator", 2, 1);
    call("join", 0, 2);
    feed("", 10);
    call("indicator", 5, 2);
    feed("", 11, 11);
    call("indicator", 5, 3);
    for (int i = below(3) == 0 ? 0 : 21 + below(4); i > 0; i--) {
      call("table", below(5), below(2) == 0 ? 6 : 8, below(3));
    }
  }

  private void makeText() {
    if (below(4) > 0) {
      call("text");
    }
    String text;
    switch (below(7)) {
      case 0: text = "\n".repeat(198 + below(4)); break;
      case 1: text = "a ".repeat(198 + below(4)); break;
      case 2: text = "z".repeat(49 + below(3)) + (below(2) == 0 ? "x" : "a b"); break;
      case 3: text = "a".repeat(198 + below(4)) + "\n" + "b".repeat(100) + "\n" + "c".repeat(99); break;
      case 4: text = "a~".repeat(195 + below(8)) + "b"; break;
      case 5: text = "abc ab~c ABC\n^a\n\n1a a<1>b <"; break;
      default: text = "a".repeat(498 + below(4)); break;
    }
    feed(text);
    call("text");
  }

  private int aTable() {
    return below(3) > 0 ? below(6) : near(0, model.tableCount() - 1, model.tableCount());
  }

  private int aLine() {
    int n = press.lines();
    return below(2) == 0 ? near(0, n - 1) : near(n, 0, 199, 200);
  }

  private int aCell() {
    return near(0, 1, 99, 100, 199, 200);
  }

  private void act() {
    int t = aTable();
    switch (below(26)) {
      case 0: call("table", near(0, 4), near(6, 8), aTable()); break;
      case 1: call("join", aTable(), aTable()); break;
      case 2: if (below(4) == 0) { call("drop", t); } break;
      case 3: makeRule(t); break;
      case 4: call("condition", t, near(0, 4, 5), near(0, 5)); break;
      case 5: feed("", aRow(near(0, 1, 4))); call("indicator", t, near(0, 3)); break;
      case 6: if (below(2) == 0) { call("undo"); } break;
      case 7: if (below(2) == 0) { makeText(); } break;
      case 8: call("measure", near(1, 100), near(1, 50), near(1, 36, 255)); break;
      case 9: call("set", t); break;
      case 10: feed("a".repeat(Math.max(0, Math.min(45, near(0, 1, 40))))); call("head", t); break;
      case 11: call("length", aLine()); call("pages"); break;
      case 12: call("cell", aLine(), aCell()); break;
      case 13: call("page", near(0, press.pages() - 1, press.pages()), near(0, 1, 49, 50), aCell()); break;
      case 14: call("cut", aLine(), near(0, 1, 100, 200)); break;
      case 15: if (below(3) == 0) { call("lose", aLine()); } break;
      case 16: call("copyRow", aLine(), aCell(), aLine(), aCell(), near(0, 1, 100, 200)); break;
      case 17: call("copyLines", aLine(), aLine(), near(0, 1, 10)); call("copied"); break;
      case 18: call("emboss", aLine(), near(0, 1, 200)); call("closed"); break;
      case 19: call("read", t, aLine(), near(0, 1, 2, 200, press.lines())); break;
      case 20: call("letter", near(0, 3999, 4000)); call("lines"); break;
      case 21: call("failed", near(0, 7), below(2)); break;
      case 22: manyReadings(t); break;
      case 23: call("judge", t); call("parts", t, near(0, 4, 5, 6), near(0, 4, 5, 6)); break;
      case 24: call("unreadable", t, near(1, 2), below(3) == 0 ? near(1, 5000) : near(11, 12, 132)); break;
      default: call("saved", t, aTable()); call("finds", near(0, 4)); break;
    }
  }

  private int[] aRow(int n) {
    int[] cells = new int[Math.max(0, Math.min(6, n))];
    for (int i = 0; i < cells.length; i++) {
      cells[i] = Math.max(0, Math.min(255, near(1, 63, 64, 255)));
    }
    return cells;
  }

  private void makeRule(int t) {
    String letters = "abcabcabca".substring(0, Math.max(0, Math.min(10, near(1, 8))));
    feed(letters, aRow(near(1, 4)));
    call("rule", t, near(0, 5), near(letters.length()));
  }

  /** The model looks at all ways: with FAILED dots at few CELLS; else BLANKS leave one way alone. */
  private void manyReadings(int t) {
    int l = aLine();
    boolean isClear = below(2) == 0;
    for (int d = 0; d < 8; d++) {
      call("failed", d, isClear ? 0 : below(2));
    }
    call("cut", l, isClear ? 1 : below(5));
    if (isClear) {
      call("cut", l, near(99, 100));
    }
    call("readings", t, l, near(1, 2, 50));
    call("more");
    for (int i = 0; i < 5; i++) {
      call("reading", near(0, 1, 49), near(0, 1, 99));
    }
  }
}
