import java.util.ArrayList;
import java.util.List;

/** Promises 37 to 40: place(), finds(), status(), digest(). */
public final class StatusTest {
  private final Check c = new Check();

  public static void main(String[] args) {
    StatusTest test = new StatusTest();
    test.place();
    test.findsOfEach();
    test.findsOfBases();
    test.findsStay();
    test.status();
    test.digestOfNone();
    test.digest();
    test.c.end("StatusTest");
  }

  private void place() {
    c.promise(37, "place");
    DotPress x = new DotPress();
    Check.plain(x, "ab");
    c.due("at first", x.place(), -1);
    Check.text(x, "a~b x");
    x.set(0);
    c.due("7: of TEXT", x.place(), 4);
    x.lines();
    x.pages();
    x.finds(0);
    x.digest();
    x.copied();
    x.closed();
    x.more();
    x.status();
    c.due("questions leave it", x.place(), 4);
    c.due("status()", x.status(), 7);
    x.feed(0, 0, 0, 0, 0);
    c.due("a call that is done", x.place(), -1);
    x.end(0);
    Check.head(x, 0, "abbx");
    c.due("7: of the TAPE", x.place(), 3);
    x.drop(9);
    c.due("a call with another STATUS", x.place(), -1);
    Check.text(x, "a\nb");
    x.set(0);
    x.table(0, 6, 0);
    x.read(1, 1, 1);
    c.due("9", x.place(), 1000);
    c.due("status()", x.status(), 9);
    x.undo();
    c.due("undo()", x.place(), -1);
    Check.text(x, "aax");
    x.saved(0, 0);
    c.due("7: saved()", x.place(), 2);
    x.reading(0, 0);
    c.due("a question with a number behind it", x.place(), -1);
  }

  private void finds(DotPress x, String what, int... due) {
    for (int k = 0; k < 5; k++) {
      c.due(what + ": finds(" + k + ")", x.finds(k), due[k]);
    }
    c.due("finds(5)", x.finds(5), 0);
    c.due("finds(-1)", x.finds(-1), 0);
    c.due("finds(MAX)", x.finds(Integer.MAX_VALUE), 0);
  }

  private void findsOfEach() {
    c.promise(38, "finds");
    DotPress x = new DotPress();
    Check.plain(x, "ab1");
    x.table(1, 8, 0);
    x.table(2, 8, 0);
    Check.rule(x, 2, 0, "1", 9);
    x.table(3, 8, 0);
    x.table(4, 8, 0);
    Check.rule(x, 4, 0, "ab", 9);
    Check.rule(x, 4, 0, "1", 9);
    Check.text(x, "ab1");
    x.set(0);
    finds(x, "Plain", 3, 0, 0, 0, 0);
    x.set(1);
    finds(x, "Contracted runs Plain's, then its BASE's", 9, 3, 0, 0, 0);
    x.set(2);
    finds(x, "Numeric runs one of both", 12, 3, 3, 0, 0);
    x.set(3);
    finds(x, "Short runs Contracted's", 18, 6, 3, 3, 0);
    x.set(4);
    finds(x, "Music", 18, 6, 3, 3, 2);
  }

  private void findsOfBases() {
    c.promise(38, "finds of BASES");
    DotPress x = new DotPress();
    Check.plain(x, "a1");
    x.table(2, 8, 0);
    Check.rule(x, 1, 0, "1", 9);
    x.table(3, 8, 1);
    x.table(1, 8, 2);
    Check.text(x, "a1");
    x.set(3);
    // each: Contracted, Plain; Short, Contracted, Plain; Numeric, Plain
    finds(x, "all", 6, 4, 2, 2, 0);
    int j = x.join(3, 0);
    Check.indicator(x, j, 2, 9);
    Check.text(x, "a<a");
    x.set(j);
    finds(x, "a Joined has none of its own", 6 + 4, 6, 3, 3, 0);
    // a great byte is looked for twice, if there is a CAPITAL
    Check.indicator(x, 0, 0, 9);
    Check.text(x, "A");
    x.set(0);
    finds(x, "CAPITAL", 12, 6, 3, 3, 0);
  }

  private void findsStay() {
    c.promise(38, "finds of refused calls");
    DotPress x = new DotPress();
    Check.plain(x, "ab");
    Check.text(x, "abxab");
    x.set(0);
    finds(x, "set()", 3, 0, 0, 0, 0);
    Check.head(x, 0, "ax");
    finds(x, "head()", 5, 0, 0, 0, 0);
    x.saved(0, 0);
    finds(x, "saved()", 8, 0, 0, 0, 0);
    // A, B, a, b
    x.unreadable(0, 2, 4);
    finds(x, "unreadable()", 12, 0, 0, 0, 0);
    x.read(0, 0, 0);
    x.judge(0);
    x.undo();
    x.set(5);
    finds(x, "others run none", 12, 0, 0, 0, 0);
    x.finds(0);
    c.due("finds() leaves STATUS", x.status(), 3);
  }

  private void status() {
    c.promise(39, "status");
    DotPress x = new DotPress();
    c.due("at first", x.status(), 0);
    x.length(0);
    c.due("2", x.status(), 2);
    c.due("asked again", x.status(), 2);
    x.undo();
    c.due("undo() is done", x.status(), 0);
    x.end(-1);
    c.due("5", x.status(), 5);
    x.lines();
    x.pages();
    x.copied();
    x.closed();
    x.more();
    x.place();
    x.finds(0);
    x.digest();
    c.due("questions leave it", x.status(), 5);
    x.end(1);
    c.due("6", x.status(), 6);
    x.drop(0);
    c.due("3", x.status(), 3);
    x.table(4, 6, 0);
    c.due("0", x.status(), 0);
    x.judge(0);
    c.due("4", x.status(), 4);
    Check.text(x, "\na");
    x.set(0);
    c.due("7", x.status(), 7);
    Check.rule(x, 0, 0, "a", 1);
    x.unreadable(0, 2, 1);
    c.due("8", x.status(), 8);
    x.set(0);
    x.lose(0);
    x.length(0);
    c.due("1", x.status(), 1);
    x.undo();
    x.read(0, 1, 1);
    c.due("9", x.status(), 9);
    x.length(1);
    c.due("0", x.status(), 0);
  }

  private static int over(List<Integer> all) {
    int d = 17;
    for (int x : all) {
      d = d * 31 + x;
    }
    return d;
  }

  private void digestOfNone() {
    c.promise(40, "digest of a new object");
    DotPress x = new DotPress();
    c.due("digest()", x.digest(), over(List.of(0, 0, 0, 0, 0, 0, 0, 0, 0)));
  }

  private void digest() {
    c.promise(40, "digest");
    DotPress x = new DotPress();
    Check.plain(x, "abc");
    x.table(4, 8, 0);
    Check.rule(x, 1, 0, "a", 200);
    Check.text(x, "ab c\n\nb\nc");
    x.set(0);
    x.read(0, 0, 1);
    x.lose(2);
    x.copyLines(0, 1, 1);
    x.emboss(0, 3);
    Check.head(x, 1, "aa");
    List<Integer> all = new ArrayList<>(List.of(4, 4, 1, 2, 0, 3, 4, 1, 2, 0, 3, -1, 1, 3));
    all.addAll(List.of(4, 97, 98, 32, 99));
    all.addAll(List.of(5, 0, 0, 0, 2));
    all.addAll(List.of(1, 3));
    c.due("digest()", x.digest(), over(all));
    c.due("again", x.digest(), over(all));
    x.measure(1, 1, 1);
    x.table(0, 6, 0);
    x.failed(1, true);
    c.due("what is not in it", x.digest(), over(all));
  }
}
