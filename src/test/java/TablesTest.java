/** Promises 1 to 10: a new object, the TAPE, TABLES, and taking back. */
public final class TablesTest {
  private final Check c = new Check();

  public static void main(String[] args) {
    TablesTest test = new TablesTest();
    test.newObject();
    test.newMeasures();
    test.feed();
    test.end();
    test.table();
    test.tableRefused();
    test.join();
    test.drop();
    test.rule();
    test.ruleRefused();
    test.condition();
    test.conditionsFit();
    test.indicator();
    test.undo();
    test.undoRules();
    test.c.end("TablesTest");
  }

  private void newObject() {
    c.promise(1, "a new object");
    DotPress x = new DotPress();
    c.due("status()", x.status(), 0);
    c.due("place()", x.place(), -1);
    c.due("lines()", x.lines(), 0);
    c.due("pages()", x.pages(), 0);
    c.due("copied()", x.copied(), 0);
    c.due("closed()", x.closed(), 0);
    c.due("more()", x.more(), 0);
    for (int k = 0; k < 5; k++) {
      c.due("finds", x.finds(k), 0);
    }
    c.refused(x, "letter(0)", x.letter(0), 2);
    c.refused(x, "reading(0, 0)", x.reading(0, 0), 2);
    c.refused(x, "judge(0)", x.judge(0), 3);
    c.done(x, "undo()", x.undo(), 0);
    c.done(x, "failed(0, false)", x.failed(0, false), 0);
    c.due("table", x.table(0, 6, 0), 0);
    c.done(x, "set(0) of no TEXT", x.set(0), 0);
    c.refused(x, "end(1)", x.end(1), 6);
    c.done(x, "text()", x.text(), 0);
  }

  private void newMeasures() {
    c.promise(1, "WIDTH 32, HEIGHT 25, HYPHEN 36");
    DotPress x = new DotPress();
    int t = Check.plain(x, "ab");
    Check.text(x, "a".repeat(16) + " " + "b".repeat(15));
    c.due("32 CELLS", x.set(t), 1);
    Check.text(x, "a".repeat(16) + " " + "b".repeat(16));
    c.due("33 CELLS", x.set(t), 2);
    Check.text(x, "aa~" + "b".repeat(31));
    c.due("a broken WORD", x.set(t), 2);
    c.same("its LINE", Check.line(x, 0), "1 1 36");
    Check.text(x, "a\n".repeat(25));
    c.due("25 LINES", x.set(t), 25);
    c.due("one PAGE", x.pages(), 1);
    Check.text(x, "a\n".repeat(26));
    c.due("26 LINES", x.set(t), 26);
    c.due("two PAGES", x.pages(), 2);
    c.due("no HEAD", x.page(0, 0, 0), 1);
  }

  private void feed() {
    c.promise(2, "feed");
    DotPress x = new DotPress();
    c.done(x, "feed", x.feed(0x20212223, 0x24252627, 0x28292a2b, 0x2c2d2e2f, 0x30313233), 20);
    c.done(x, "feed", x.feed(0, 0, 0, 0, 0), 40);
    x.end(20);
    c.due("text() of the bytes", x.text(), 20);
    // the bytes in their order: each has a CELL of its own
    int t = x.table(0, 8, 0);
    for (int i = 0x21; i <= 0x33; i++) {
      Check.rule(x, t, 0, String.valueOf((char) i), i);
    }
    x.set(t);
    c.same("LINE", Check.line(x, 0), "33 34 35 36 37 38 39 40 41 42 43 44 45 46 47 48 49 50 51");
    for (int i = 1; i <= 150; i++) {
      x.feed(-1, -1, -1, -1, -1);
    }
    c.due("status()", x.status(), 0);
    c.refused(x, "the 151st feed", x.feed(1, 2, 3, 4, 5), 6);
    c.done(x, "end(3000)", x.end(3000), 3000);
    c.done(x, "end(2980)", x.end(2980), 2980);
    c.done(x, "feed", x.feed(1, 2, 3, 4, 5), 3000);
    x.end(2981);
    c.refused(x, "feed with too little room", x.feed(1, 2, 3, 4, 5), 6);
    c.done(x, "the TAPE stays", x.end(2981), 2981);
    // bytes above 127 come as they are
    x.end(0);
    c.due("indicator of 255", Check.indicator(x, t, 0, 255, 128), 2);
  }

  private void end() {
    c.promise(3, "end");
    DotPress x = new DotPress();
    x.feed(0x61620000, 0, 0, 0, 0);
    c.refused(x, "end(-1)", x.end(-1), 5);
    c.refused(x, "end(21)", x.end(21), 6);
    c.refused(x, "end(MIN)", x.end(Integer.MIN_VALUE), 5);
    c.refused(x, "end(MAX)", x.end(Integer.MAX_VALUE), 6);
    c.done(x, "end(20)", x.end(20), 20);
    c.done(x, "end(2)", x.end(2), 2);
    c.refused(x, "end(3)", x.end(3), 6);
    c.done(x, "text()", x.text(), 2);
    c.done(x, "end(0)", x.end(0), 0);
    c.refused(x, "end(1), the TAPE being taken", x.end(1), 6);
  }

  private void table() {
    c.promise(4, "table");
    DotPress x = new DotPress();
    c.done(x, "Plain", x.table(0, 6, -5), 0);
    c.done(x, "Contracted", x.table(1, 8, 0), 1);
    c.done(x, "Numeric", x.table(2, 6, 1), 2);
    c.done(x, "Short", x.table(3, 8, 2), 3);
    c.done(x, "Contracted of a Short", x.table(1, 6, 3), 4);
    c.done(x, "Music", x.table(4, 8, 99), 5);
    c.due("8 DOTS", Check.rule(x, 1, 0, "a", 255), 0);
    c.due("6 DOTS", Check.rule(x, 0, 0, "a", 63), 0);
    c.due("6 DOTS", Check.rule(x, 0, 0, "a", 64), -1);
  }

  private void tableRefused() {
    c.promise(4, "table refused");
    DotPress x = new DotPress();
    c.refused(x, "KIND -1", x.table(-1, 6, 0), 6);
    c.refused(x, "KIND 5", x.table(5, 6, 0), 6);
    c.refused(x, "7 DOTS", x.table(0, 7, 0), 6);
    c.refused(x, "0 DOTS", x.table(0, 0, 0), 6);
    c.refused(x, "no BASE", x.table(1, 6, 0), 3);
    c.refused(x, "6 ahead of 3", x.table(1, 7, 0), 6);
    x.table(4, 6, 0);
    c.refused(x, "its own number", x.table(1, 6, 1), 3);
    c.refused(x, "BASE -1", x.table(2, 6, -1), 3);
    c.refused(x, "BASE of Music", x.table(3, 6, 0), 4);
    x.table(0, 6, 0);
    x.join(1, 1);
    c.refused(x, "BASE of a Joined", x.table(1, 6, 2), 4);
    x.drop(1);
    c.refused(x, "BASE that is dropped", x.table(1, 6, 1), 3);
    for (int i = 3; i < 30; i++) {
      c.due("table", x.table(0, 6, 0), i);
    }
    c.refused(x, "the 31st", x.table(0, 6, 0), 6);
    c.refused(x, "no room ahead of no BASE", x.table(1, 6, 99), 6);
    c.refused(x, "no room for a Joined", x.join(3, 4), 6);
    x.drop(29);
    c.refused(x, "a dropped one keeps its number", x.table(0, 6, 0), 6);
    x.undo();
    x.undo();
    c.done(x, "taken back, there is room", x.table(0, 6, 0), 29);
  }

  private void join() {
    c.promise(5, "join");
    DotPress x = new DotPress();
    x.table(0, 6, 0);
    x.table(0, 8, 0);
    x.table(4, 6, 0);
    c.done(x, "join(0, 1)", x.join(0, 1), 3);
    c.done(x, "join(0, 0)", x.join(0, 0), 4);
    c.due("8 DOTS of both", Check.indicator(x, 3, 2, 255), 1);
    c.due("6 DOTS of both", Check.indicator(x, 4, 2, 64), -1);
    c.due("6 DOTS of both", Check.indicator(x, 4, 2, 63), 1);
    c.refused(x, "3 of first", x.join(9, 2), 3);
    c.refused(x, "4 of first ahead of 3 of second", x.join(2, 9), 4);
    c.refused(x, "4 of first", x.join(3, 0), 4);
    c.refused(x, "3 of second", x.join(0, -1), 3);
    c.refused(x, "4 of second", x.join(0, 2), 4);
    c.refused(x, "4 of second, a Joined", x.join(0, 4), 4);
    x.drop(1);
    c.refused(x, "first is dropped", x.join(1, 0), 3);
    c.refused(x, "second is dropped", x.join(0, 1), 3);
    c.done(x, "numbers go on", x.table(0, 6, 0), 5);
  }

  private void drop() {
    c.promise(6, "drop");
    DotPress x = new DotPress();
    c.refused(x, "drop(0)", x.drop(0), 3);
    x.table(0, 6, 0);
    x.table(1, 6, 0);
    x.table(0, 6, 0);
    x.join(2, 1);
    Check.rule(x, 0, 0, "a", 1);
    Check.rule(x, 2, 0, "a", 1);
    Check.text(x, "a");
    c.done(x, "set by all", x.set(3), 1);
    c.done(x, "drop(0)", x.drop(0), 1);
    c.refused(x, "again", x.drop(0), 3);
    c.refused(x, "drop(-1)", x.drop(-1), 3);
    c.refused(x, "itself", x.set(0), 3);
    c.refused(x, "what is under it", x.set(1), 3);
    c.refused(x, "joined of what is under it", x.set(3), 3);
    c.done(x, "another", x.set(2), 1);
    c.refused(x, "a RULE of it", Check.rule(x, 0, 0, "b", 2), 3);
    c.due("a RULE of what is under it", Check.rule(x, 1, 0, "b", 2), 0);
    c.done(x, "another", x.drop(3), 1);
    c.done(x, "a new one", x.table(0, 6, 0), 4);
  }

  private void rule() {
    c.promise(7, "rule");
    DotPress x = new DotPress();
    x.table(0, 8, 0);
    x.table(4, 6, 0);
    c.done(x, "8 LETTERS, 4 CELLS", Check.rule(x, 0, 5, "!abcdef}", 1, 128, 255, 7), 0);
    c.due("the TAPE is taken", x.end(1), -1);
    c.done(x, "one of each", Check.rule(x, 0, 0, "a", 1), 1);
    c.done(x, "like another", Check.rule(x, 0, 0, "a", 1), 2);
    c.done(x, "of Music", Check.rule(x, 1, 4, "a", 63), 0);
    Check.text(x, "!abcdef}? a");
    x.measure(20, 5, 36);
    c.due("a RULE for ?", Check.rule(x, 0, 0, "?", 9), 3);
    c.due("set", x.set(0), 1);
    c.same("LINE", Check.line(x, 0), "1 128 255 7 9 0 1");
  }

  private void ruleRefused() {
    c.promise(7, "rule refused");
    DotPress x = new DotPress();
    x.table(0, 6, 0);
    x.join(0, 0);
    c.refused(x, "no TABLE", Check.rule(x, 2, 9, "a", 1), 3);
    c.due("the TAPE is empty", x.end(1), -1);
    Check.tape(x, "a", 1);
    c.refused(x, "a Joined ahead of m", x.rule(1, 0, -1), 4);
    c.due("the TAPE is empty", x.end(1), -1);
    Check.tape(x, "a", 1);
    c.refused(x, "m ahead of the CONDITION", x.rule(0, 6, -1), 5);
    c.due("the TAPE is empty", x.end(1), -1);
    Check.tape(x, "a", 1);
    c.refused(x, "m 0", x.rule(0, 0, 0), 6);
    c.due("the TAPE is empty", x.end(1), -1);
    c.refused(x, "CONDITION 6", Check.rule(x, 0, 6, "a", 1), 6);
    c.refused(x, "CONDITION -1", Check.rule(x, 0, -1, "a", 1), 6);
    c.refused(x, "9 LETTERS", Check.rule(x, 0, 0, "abcdefghi", 1), 6);
    c.refused(x, "5 CELLS", Check.rule(x, 0, 0, "a", 1, 2, 3, 4, 5), 6);
    c.refused(x, "no CELL", Check.rule(x, 0, 0, "a"), 6);
    c.refused(x, "a CELL 0", Check.rule(x, 0, 0, "a", 1, 0), 6);
    c.refused(x, "a CELL with dot 6", Check.rule(x, 0, 0, "a", 1, 64), 6);
    c.refused(x, "a BLANK is no LETTER", Check.rule(x, 0, 0, "a b", 1), 6);
    c.refused(x, "~ is no LETTER", Check.rule(x, 0, 0, "~", 1), 6);
    c.refused(x, "a byte above", Check.rule(x, 0, 0, "a\u00e4", 1), 6);
    Check.tape(x, "a", 1);
    c.refused(x, "m above the TAPE", x.rule(0, 0, 3), 6);
    Check.tape(x, "a", 1);
    c.refused(x, "m as much as the TAPE", x.rule(0, 0, 2), 6);
    c.refused(x, "an empty TAPE", x.rule(0, 0, 1), 6);
    Check.tape(x, "a", 1);
    c.refused(x, "m MAX", x.rule(0, 0, Integer.MAX_VALUE), 6);
    c.due("none was made", x.parts(0, 0, 0), -1);
    for (int i = 0; i < 200; i++) {
      c.due("rule", shortRule(x), i);
    }
    c.refused(x, "the 201st RULE", shortRule(x), 6);
    x.undo();
    c.due("taken back, there is room", shortRule(x), 199);
  }

  private static int shortRule(DotPress x) {
    x.feed('a' << 24 | 1 << 16, 0, 0, 0, 0);
    x.end(2);
    return x.rule(0, 0, 1);
  }

  private void condition() {
    c.promise(8, "condition");
    DotPress x = new DotPress();
    x.table(0, 6, 0);
    x.join(0, 0);
    Check.rule(x, 0, 3, "a", 1);
    c.refused(x, "no TABLE", x.condition(5, 9, 9), 3);
    c.refused(x, "a Joined", x.condition(1, 9, 9), 4);
    c.refused(x, "no such RULE", x.condition(0, 1, 9), 2);
    c.refused(x, "RULE -1", x.condition(0, -1, 0), 2);
    c.refused(x, "CONDITION 6", x.condition(0, 0, 6), 6);
    c.refused(x, "CONDITION -1", x.condition(0, 0, -1), 6);
    c.done(x, "another", x.condition(0, 0, 5), 3);
    c.done(x, "the same", x.condition(0, 0, 5), 5);
    c.done(x, "back", x.condition(0, 0, 0), 5);
    x.drop(0);
    c.refused(x, "dropped", x.condition(0, 0, 0), 3);
  }

  /** How a WORD of a, b and signs is set, if the RULE "a" has a CONDITION and others have none. */
  private void conditionsFit() {
    c.promise(8, "CONDITIONS");
    String[] due = {
      "9 2 9 2 9", "9 2 1 2 1", "1 2 9 2 1", "1 2 1 2 9", "1 2 1 2 1", "1 2 1 2 1"
    };
    for (int condition = 0; condition <= 5; condition++) {
      DotPress x = new DotPress();
      x.table(0, 6, 0);
      Check.rule(x, 0, condition, "a", 9);
      Check.rule(x, 0, 0, "b", 2);
      Check.rule(x, 0, 0, ".", 3);
      Check.rule(x, 0, 0, "a", 1);
      Check.text(x, "ababa");
      x.set(0);
      c.same("CONDITION " + condition, Check.line(x, 0), due[condition]);
      Check.text(x, "a");
      x.set(0);
      String alone = condition == 2 || condition == 5 ? "1" : "9";
      c.same("alone, CONDITION " + condition, Check.line(x, 0), alone);
      Check.text(x, "a.a.b");
      x.set(0);
      String[] signs = {"9 3 9 3 2", "9 3 1 3 2", "1 3 9 3 2", "1 3 1 3 2", "1 3 1 3 2", "9 3 9 3 2"};
      c.same("signs, CONDITION " + condition, Check.line(x, 0), signs[condition]);
    }
    // for CONDITION 5, that which stands next to it counts, and each sign does
    DotPress x = new DotPress();
    x.table(0, 8, 0);
    Check.rule(x, 0, 5, "a", 9);
    Check.rule(x, 0, 0, "a", 1);
    String others = "!/09:@AZ[`az{}";
    for (int i = 0; i < others.length(); i++) {
      Check.rule(x, 0, 0, others.substring(i, i + 1), 20 + i);
    }
    String signs = "!/:@[`{}";
    for (int i = 0; i < others.length(); i++) {
      Check.text(x, "a" + others.charAt(i) + "!");
      x.set(0);
      c.due("ahead of " + others.charAt(i), x.cell(0, 0), signs.indexOf(others.charAt(i)) < 0 ? 1 : 9);
    }
  }

  private void indicator() {
    c.promise(9, "indicator");
    DotPress x = new DotPress();
    x.table(0, 6, 0);
    x.table(1, 6, 0);
    x.table(2, 6, 0);
    x.table(3, 6, 0);
    x.table(4, 6, 0);
    x.join(0, 1);
    String[] kinds = {"012", "2", "5", "5"};
    for (int which = 0; which < 4; which++) {
      for (int t = 0; t < 6; t++) {
        Check.tape(x, "", 1, 2);
        int got = x.indicator(t, which);
        boolean may = kinds[which].indexOf('0' + t) >= 0;
        c.due("indicator(" + t + ", " + which + ")", got, may ? 2 : -1);
        c.due("status()", x.status(), may ? 0 : 4);
        c.due("the TAPE is empty", x.end(1), -1);
      }
    }
    c.refused(x, "6 ahead of 3", Check.indicator(x, 9, 4, 1), 6);
    c.due("the TAPE is empty", x.end(1), -1);
    c.refused(x, "which -1", Check.indicator(x, 0, -1, 1), 6);
    c.refused(x, "3 ahead of the TAPE", Check.indicator(x, 9, 0, 0), 3);
    c.due("the TAPE is empty", x.end(1), -1);
    c.refused(x, "4 ahead of the TAPE", Check.indicator(x, 0, 1, 0), 4);
    c.refused(x, "5 CELLS", Check.indicator(x, 0, 0, 1, 2, 3, 4, 5), 6);
    c.refused(x, "a CELL 0", Check.indicator(x, 0, 0, 1, 0), 6);
    c.refused(x, "a CELL with dot 6", Check.indicator(x, 0, 0, 64), 6);
    c.done(x, "4 CELLS", Check.indicator(x, 0, 0, 1, 2, 3, 63), 4);
    c.due("it is a ROW", x.parts(0, 0, 0), -5);
    c.done(x, "none", x.indicator(0, 0), 0);
    c.refused(x, "it is no ROW any more", x.parts(0, 0, 0), 2);
  }

  private void undo() {
    c.promise(10, "undo");
    DotPress x = new DotPress();
    x.table(0, 6, 0);
    x.table(2, 6, 0);
    x.join(0, 1);
    c.done(x, "join", x.undo(), 1);
    c.refused(x, "it is none", x.drop(2), 3);
    c.done(x, "its number is given again", x.table(4, 8, 0), 2);
    c.due("it is another one", x.judge(2), -1);
    c.due("Music", x.status(), 4);
    x.drop(0);
    c.refused(x, "what is under it", x.judge(1), 3);
    c.done(x, "drop", x.undo(), 1);
    c.done(x, "what is under it", x.judge(1), 1);
    Check.indicator(x, 0, 0, 1, 2);
    Check.indicator(x, 0, 0, 3);
    x.indicator(0, 0);
    c.refused(x, "empty", x.parts(0, 0, 0), 2);
    x.undo();
    c.due("one CELL", x.parts(0, 0, 0), -2);
    x.undo();
    c.due("two CELLS", x.parts(0, 0, 0), -3);
    x.undo();
    c.refused(x, "empty", x.parts(0, 0, 0), 2);
    c.done(x, "Music", x.undo(), 1);
    c.done(x, "Numeric", x.undo(), 1);
    c.done(x, "Plain", x.undo(), 1);
    c.done(x, "there is none", x.undo(), 0);
    c.refused(x, "no TABLES", x.judge(0), 3);
    c.done(x, "the first again", x.table(0, 6, 0), 0);
  }

  private void undoRules() {
    c.promise(10, "undo of RULES");
    DotPress x = new DotPress();
    x.table(0, 6, 0);
    Check.rule(x, 0, 1, "a", 1);
    x.condition(0, 0, 2);
    x.condition(0, 0, 3);
    Check.rule(x, 0, 0, "b", 2);
    // what is refused, and what is no change of TABLES, is not taken back
    Check.rule(x, 0, 9, "b", 2);
    x.measure(5, 5, 5);
    Check.text(x, "b");
    x.set(0);
    c.done(x, "rule", x.undo(), 1);
    c.due("one RULE", x.condition(0, 1, 0), -1);
    c.done(x, "condition", x.undo(), 1);
    c.due("CONDITION", x.condition(0, 0, 5), 2);
    x.undo();
    c.done(x, "condition", x.undo(), 1);
    c.due("CONDITION", x.condition(0, 0, 5), 1);
    x.undo();
    c.due("LINES stay", x.lines(), 1);
    x.drop(0);
    x.undo();
    c.done(x, "rule", x.undo(), 1);
    c.refused(x, "no RULE", x.condition(0, 0, 0), 2);
    c.due("the first RULE again", Check.rule(x, 0, 0, "b", 2), 0);
  }
}
