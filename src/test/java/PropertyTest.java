import java.util.Random;

/**
 * What must hold for all TABLES: by one that is READABLE each WORD that can be set is read back,
 * and TEXT that is set, broken and all, is read as its WORDS.
 */
public final class PropertyTest {
  private static int wrong = 0;
  private static int readable = 0;
  private static int readBack = 0;

  public static void main(String[] args) {
    for (int seed = 0; seed < 6000; seed++) {
      play(new Random(seed), seed);
    }
    if (readable < 500 || readBack < 500) {
      System.out.println("too few TABLES are READABLE: " + readable + ", texts " + readBack);
      wrong++;
    }
    System.out.println("PropertyTest: " + readable + " READABLE TABLES, " + readBack
        + " TEXTS read back, " + wrong + " faults");
    if (wrong != 0) {
      System.exit(1);
    }
  }

  private static void fault(int seed, String what) {
    wrong++;
    System.out.println("run " + seed + ": " + what);
  }

  private static void play(Random random, int seed) {
    DotPress x = new DotPress();
    int t = tables(x, random);
    int judged = x.judge(t);
    if (judged == 1) {
      readable++;
      int lost = x.unreadable(t, 4, 3000);
      if (lost != 0 && x.status() != 8) {
        fault(seed, "READABLE, but " + Check.bytesRead(x) + " is not read back");
      }
      texts(x, random, t, seed);
    }
  }

  /** CELLS of few dots, so that some TABLES are READABLE and some are not. */
  private static int[] cells(Random random) {
    int[] cells = new int[1 + random.nextInt(2)];
    for (int i = 0; i < cells.length; i++) {
      cells[i] = 1 + random.nextInt(40);
    }
    return cells;
  }

  private static int tables(DotPress x, Random random) {
    int plain = x.table(0, 8, 0);
    for (String letters : new String[] {"a", "b", "c", "ab", "."}) {
      if (random.nextInt(6) > 0) {
        Check.rule(x, plain, letters.length() == 2 ? random.nextInt(6) : 0, letters, cells(random));
      }
    }
    Check.indicator(x, plain, 0, cells(random));
    int t = x.table(1 + random.nextInt(2), 8, plain);
    for (String letters : new String[] {"1", "ba", "2"}) {
      Check.rule(x, t, random.nextInt(3) == 0 ? random.nextInt(6) : 0, letters, cells(random));
    }
    Check.indicator(x, t, 0, cells(random));
    Check.indicator(x, t, 1, cells(random));
    if (random.nextInt(3) == 0) {
      int j = x.join(plain, t);
      Check.indicator(x, j, 2, cells(random));
      Check.indicator(x, j, 3, cells(random));
      return j;
    }
    return random.nextBoolean() ? plain : t;
  }

  private static void texts(DotPress x, Random random, int t, int seed) {
    for (int i = 0; i < 5; i++) {
      StringBuilder text = new StringBuilder();
      StringBuilder words = new StringBuilder();
      // a CENTRED line is not broken here: the BLANKS in front would part a WORD
      boolean isCentred = random.nextInt(4) == 0;
      for (int k = random.nextInt(5); k >= 0; k--) {
        StringBuilder word = new StringBuilder();
        for (int n = random.nextInt(8); n >= 0; n--) {
          word.append("aabbccA12.~~".charAt(random.nextInt(isCentred ? 10 : 12)));
        }
        text.append(random.nextInt(5) > 0 ? " " : isCentred ? "\n^" : "\n").append(word);
        String letters = word.toString().replace("~", "");
        words.append(letters.isEmpty() || words.length() == 0 ? "" : " ").append(letters);
      }
      x.measure(3 + random.nextInt(12), 25, 36);
      Check.text(x, text.toString());
      // the HYPHEN is what it was when the TABLE was judged
      if (x.set(t) < 0) {
        continue;
      }
      readBack++;
      x.read(t, 0, x.lines());
      if (x.status() != 0 || !Check.bytesRead(x).equals(words.toString())) {
        fault(seed, "[" + text + "] is read as [" + Check.bytesRead(x) + "]");
      }
    }
  }
}
