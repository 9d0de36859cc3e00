import java.util.ArrayList;
import java.util.List;

/**
 * Objects in full use that have had the same calls, and the questions that show all of their state:
 * where one of two had another call more, each answer that is not alike tells what it changed.
 */
final class Twins {
  interface Work {
    void on(DotPress x);
  }

  private Twins() {
  }

  /**
   * TABLES 0 to 5 are one of each KIND; 6 is dropped, and 7 to 10 are under it or joined of it, near
   * or far off. LINE 1 is lacking, LINE 4 has 101 CELLS; the TAPE has "abc".
   */
  static DotPress inUse() {
    DotPress x = new DotPress();
    x.table(0, 8, 0);
    x.table(1, 8, 0);
    x.table(2, 8, 0);
    x.table(3, 8, 1);
    x.table(4, 8, 0);
    x.join(0, 2);
    x.table(0, 6, 0);
    x.table(1, 6, 6);
    x.join(6, 0);
    x.join(0, 7);
    x.table(2, 6, 7);
    Check.rule(x, 0, 0, "a", 1);
    Check.rule(x, 0, 0, "b", 2);
    Check.rule(x, 0, 0, "c", 3);
    Check.rule(x, 1, 1, "ab", 10);
    Check.rule(x, 2, 0, "1", 11);
    Check.rule(x, 4, 0, "a", 7);
    Check.indicator(x, 0, 0, 32);
    Check.indicator(x, 2, 1, 60);
    Check.indicator(x, 5, 2, 48);
    Check.indicator(x, 5, 3, 49);
    x.drop(6);
    x.measure(6, 3, 36);
    Check.text(x, "ab c\n^a\n\ncccc~bbbb");
    x.set(0);
    x.read(0, 0, 1);
    Check.head(x, 0, "ba");
    x.failed(1, true);
    x.readings(0, 0, 2);
    x.copyLines(0, 2, 1);
    x.emboss(0, 1);
    x.lose(1);
    x.cut(4, 101);
    Check.tape(x, "abc");
    return x;
  }

  /** What can be asked without a change of STATUS. */
  static String shown(DotPress x, boolean findsToo) {
    StringBuilder all = new StringBuilder();
    String calls = "lines,pages,copied,closed,more";
    calls += findsToo ? ",finds 0,finds 1,finds 2,finds 3,finds 4,digest" : "";
    for (String call : calls.split(",")) {
      all.append(call).append(": ").append(Calls.say(x, call)).append(' ');
    }
    return all.toString();
  }

  /** Asks for all state, changing it on the way: behind it an object is of no more use. */
  static List<String> portrait(DotPress x, boolean findsToo) {
    List<String> all = new ArrayList<>();
    all.add(shown(x, findsToo));
    for (int l = 0; l < 5; l++) {
      all.add("LINE " + l + ": " + x.length(l) + " of " + x.cell(l, 0) + " " + x.cell(l, 1) + " "
          + x.cell(l, 2) + " " + x.cell(l, 3) + " " + x.cell(l, 4));
    }
    all.add("READ: " + Check.bytesRead(x));
    all.add("READINGS: " + Check.reading(x, 0) + ", " + Check.reading(x, 1) + ", " + Check.reading(x, 2));
    all.add("HEAD: " + x.page(0, 0, 0) + " " + x.page(0, 0, 1) + " " + x.page(0, 0, 2));
    all.add("the TAPE: " + x.feed(0, 0, 0, 0, 0) + " " + x.end(3) + " " + x.head(0) + " "
        + x.page(0, 0, 0) + " " + x.page(0, 0, 1) + " " + x.page(0, 0, 2));
    say(x, all, "readings 0 0 50,more,failed 0 0,failed 1 0,failed 2 0,failed 3 0,failed 4 0,failed 5 0");
    say(x, all, "failed 6 0,failed 7 0,set 0,pages,cell 0 3,cell 1 2,length 3,cell 3 4");
    say(x, all, "saved 0 1,read 0 0 5,letter 3,letter 4,letter 5,text");
    for (int t = 0; t <= 11; t++) {
      all.add("TABLE " + t + ": " + x.judge(t) + " " + x.parts(t, 0, 0));
    }
    say(x, all, "parts 0 0 1,parts 0 3 3,parts 0 4 4,parts 5 4 4,parts 2 4 4,parts 2 5 5");
    say(x, all, "condition 0 0 5,undo,condition 1 0 5,undo,condition 4 1 0");
    for (int i = 0; i < 24; i++) {
      all.add("undo " + i + ": " + x.undo() + " " + x.judge(5) + " " + x.parts(0, 2, 2));
    }
    return all;
  }

  private static void say(DotPress x, List<String> all, String calls) {
    for (String call : calls.split(",")) {
      all.add(call + ": " + Calls.say(x, call));
    }
  }

  /** The first answers that are not alike; empty if all are. */
  static String difference(DotPress one, DotPress other, boolean findsToo) {
    List<String> a = portrait(one, findsToo);
    List<String> b = portrait(other, findsToo);
    for (int i = 0; i < a.size(); i++) {
      if (!a.get(i).equals(b.get(i))) {
        return a.get(i) + ", but without it " + b.get(i);
      }
    }
    return "";
  }
}
