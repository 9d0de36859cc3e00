import java.util.Random;

/** Many runs of chance calls (the same ones each time), DotPress held against Model. */
public final class FuzzTest {
  private static final int RUNS = 4000;
  private static final int CALLS = 500;
  private static final String LETTERS = "aabbcAB12.<>~ ";
  private static final String[] QUESTIONS = {
    "lines", "pages", "copied", "closed", "more", "place", "status", "digest"
  };

  private final Random random;
  private final DotPress press = new DotPress();
  private final Model model = new Model();
  private final StringBuilder story = new StringBuilder();
  private int calls = 0;
  private boolean isRight = true;

  private FuzzTest(int seed) {
    random = new Random(seed);
  }

  public static void main(String[] args) {
    long all = 0;
    for (int seed = 0; seed < RUNS; seed++) {
      FuzzTest run = new FuzzTest(seed);
      run.play();
      all += run.calls;
      if (!run.isRight) {
        System.out.println("run " + seed + ":\n" + run.story);
        System.exit(1);
      }
    }
    System.out.println("FuzzTest: " + all + " answers as the model's");
  }

  private void play() {
    makeTable(0);
    for (int i = random.nextInt(5); i > 0; i--) {
      makeTable(below(5));
    }
    call("measure", 1 + below(14), 1 + below(5), 1 + below(40));
    while (calls < CALLS && isRight) {
      act();
    }
  }

  private int call(String name, int... a) {
    calls++;
    int got = Calls.on(press, name, a);
    int want = model.call(name, a);
    story.append(name).append(java.util.Arrays.toString(a)).append(" -> ").append(got);
    if (got != want) {
      story.append(", the model says ").append(want);
      isRight = false;
    }
    story.append('\n');
    return got;
  }

  private int below(int n) {
    return random.nextInt(n);
  }

  /** Mostly 0 to n - 1, sometimes beyond. */
  private int about(int n) {
    switch (below(80)) {
      case 0: case 1: case 2: return n + below(2);
      case 3: case 4: case 5: return -1 - below(2);
      case 6: return Integer.MAX_VALUE - below(2);
      case 7: return Integer.MIN_VALUE + below(2);
      default: return below(Math.max(1, n));
    }
  }

  private int aTable() {
    return about(model.tableCount());
  }

  private void feed(String text, int... cells) {
    byte[] all = new byte[text.length() + cells.length];
    for (int i = 0; i < all.length; i++) {
      all[i] = (byte) (i < text.length() ? text.charAt(i) : cells[i - text.length()]);
    }
    for (int i = 0; i < all.length; i += 20) {
      call("feed", Check.four(all, i), Check.four(all, i + 4), Check.four(all, i + 8),
          Check.four(all, i + 12), Check.four(all, i + 16));
    }
    if (below(40) != 0) {
      call("end", all.length);
    }
  }

  private int[] cells(int least, int most) {
    int[] cells = new int[least + below(most - least + 1)];
    for (int i = 0; i < cells.length; i++) {
      cells[i] = below(30) == 0 ? below(256) : 1 + below(below(2) == 0 ? 4 : 12);
    }
    return cells;
  }

  private String letters(int least, int most, String of) {
    StringBuilder all = new StringBuilder();
    int n = least + below(most - least + 1);
    for (int i = 0; i < n; i++) {
      all.append(of.charAt(below(of.length())));
    }
    return all.toString();
  }

  private void makeTable(int kind) {
    if (below(5) == 0) {
      int t = call("join", aTable(), aTable());
      if (t >= 0) {
        indicate(t, 2);
        indicate(t, 3);
      }
      return;
    }
    int t = call("table", below(30) == 0 ? about(5) : kind,
        below(20) == 0 ? 7 : below(5) == 0 ? 6 : 8, aTable());
    if (t < 0) {
      return;
    }
    // two of three TABLES under none get CELLS that can be told apart
    boolean isClear = below(3) > 0;
    String each = kind == 2 ? "12" : kind == 0 || kind == 4 ? "abc12." : letters(0, 2, "abc");
    for (int i = 0; i < each.length(); i++) {
      if (below(25) != 0) {
        feed(each.substring(i, i + 1), isClear ? new int[] {i + 1 + kind * 8} : cells(1, 2));
        call("rule", t, 0, 1);
      }
    }
    for (int i = below(4); i > 0; i--) {
      makeRule(t);
    }
    if (kind <= 2 && below(5) > 0) {
      indicate(t, 0);
    }
    if (kind == 2) {
      indicate(t, 1);
    }
  }

  private void indicate(int t, int which) {
    feed("", below(9) == 0 ? cells(0, 5) : new int[] {32 + below(20)});
    call("indicator", t, which);
  }

  private void makeRule(int t) {
    String l = letters(1, 3, below(20) == 0 ? LETTERS : "aabbc12.A");
    feed(l, cells(1, below(10) == 0 ? 5 : 3));
    call("rule", t, about(6), below(20) == 0 ? about(9) : l.length());
  }

  private void makeText() {
    if (below(3) > 0) {
      call("text");
    }
    StringBuilder all = new StringBuilder();
    // most TEXTS keep to what nearly each TABLE has; some are of long WORDS, or many lines
    String of = below(3) > 0 ? "abc~" : below(2) == 0 ? "aabbccA12~~." : LETTERS;
    boolean isJoined = below(6) == 0;
    int most = below(12) == 0 ? 300 : 9;
    for (int i = most > 9 ? 0 : below(7); i >= 0; i--) {
      all.append(below(6) == 0 ? "^" : "");
      String word = letters(0, most, of);
      all.append(isJoined ? word + "<" + letters(0, 3, "abc12.") + ">" + word : word);
      all.append(below(4) == 0 ? "\n" : " ");
    }
    if (below(40) == 0) {
      all.append("\n".repeat(below(220)));
    }
    String text = all.toString();
    if (below(3) == 0) {
      text = text.trim();
    }
    feed(text);
    call("text");
  }

  private void act() {
    int t = aTable();
    int n = press.lines();
    switch (below(30)) {
      case 0: makeTable(below(5)); break;
      case 1: makeRule(t); break;
      case 2: call("condition", t, about(6), about(6)); break;
      case 3: feed("", cells(0, below(9) == 0 ? 6 : 4)); call("indicator", t, about(4)); break;
      case 4: if (below(3) == 0) { call("undo"); } break;
      case 5: if (below(3) == 0) { dropSome(t); } break;
      case 6: case 7: case 8: makeText(); call("set", t); break;
      case 9:
        call("measure", below(15) == 0 ? about(101) : 1 + below(14),
            below(15) == 0 ? about(51) : 1 + below(5),
            below(15) == 0 ? about(256) : 1 + below(40));
        break;
      case 10: case 11: call("set", t); break;
      case 12: feed(letters(0, below(9) == 0 ? 45 : 6, "abcA1<>")); call("head", t); break;
      case 13: call("length", about(n)); break;
      case 14: call("cell", about(n), about(8)); break;
      case 15: call("page", about(press.pages()), about(6), about(6)); break;
      case 16: call("cut", about(n), below(20) == 0 ? about(201) : about(7)); break;
      case 17: if (below(3) == 0) { call("lose", about(n)); } break;
      case 18: call("copyRow", about(n), about(4), about(n), about(4), about(4)); break;
      case 19: call("copyLines", about(n), about(n), about(below(4) == 0 ? 11 : 3)); break;
      case 20: call("emboss", about(n), below(9) == 0 ? about(201) : about(n + 1)); break;
      case 21: case 22: readSome(t, n); break;
      case 23: call("letter", about(10)); break;
      case 24: call("failed", about(8), below(2)); break;
      case 25: manyReadings(t, n); break;
      case 26: call("judge", t); call("parts", t, about(6), about(6)); break;
      case 27: call("unreadable", t, about(5), below(5) == 0 ? about(5001) : about(60)); break;
      case 28: call("saved", t, aTable()); break;
      default: call("finds", about(5)); break;
    }
    call(QUESTIONS[below(QUESTIONS.length)]);
    call("status");
    call("place");
    if (below(4) == 0) {
      call("digest");
    }
  }

  private void dropSome(int t) {
    call("drop", t);
    for (int i = below(3); i > 0; i--) {
      call("set", aTable());
      call("judge", aTable());
      call("read", aTable(), 0, below(3));
      call("saved", aTable(), aTable());
      call("parts", aTable(), 0, 0);
      manyReadings(aTable(), press.lines());
      makeTable(below(5));
    }
    for (int i = below(6); i > 0; i--) {
      call("undo");
    }
  }

  private void readSome(int t, int n) {
    int from = about(n);
    int size = below(3) == 0 ? about(n + 1) : Math.max(0, n - Math.max(0, from));
    call("read", t, from, size);
  }

  /** The model looks at all ways, so the LINE is cut to few CELLS. */
  private void manyReadings(int t, int n) {
    int l = about(n);
    if (press.length(l) > 6) {
      call("cut", l, below(7));
    } else {
      call("length", l);
    }
    if (press.lines() > 0 && press.length(l) > 6) {
      return;
    }
    call("readings", t, l, about(below(3) == 0 ? 51 : 5));
    call("more");
    for (int i = below(12); i >= 0; i--) {
      call("reading", about(4), about(6));
    }
  }
}
