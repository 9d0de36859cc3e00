/** Calls by their names, so that they can stand in tables, or come by chance. */
final class Calls {
  private Calls() {
  }

  /** A call as it is written with blanks: its name, then its numbers (or MAX, MIN). */
  static int say(DotPress x, String call) {
    String[] words = call.split(" ");
    int[] numbers = new int[words.length - 1];
    for (int i = 0; i < numbers.length; i++) {
      numbers[i] = number(words[i + 1]);
    }
    return on(x, words[0], numbers);
  }

  private static int number(String word) {
    switch (word) {
      case "MAX": return Integer.MAX_VALUE;
      case "MIN": return Integer.MIN_VALUE;
      default: return Integer.parseInt(word);
    }
  }

  static int on(DotPress x, String name, int... a) {
    switch (name) {
      case "feed": return x.feed(a[0], a[1], a[2], a[3], a[4]);
      case "end": return x.end(a[0]);
      case "table": return x.table(a[0], a[1], a[2]);
      case "join": return x.join(a[0], a[1]);
      case "drop": return x.drop(a[0]);
      case "rule": return x.rule(a[0], a[1], a[2]);
      case "condition": return x.condition(a[0], a[1], a[2]);
      case "indicator": return x.indicator(a[0], a[1]);
      case "undo": return x.undo();
      case "text": return x.text();
      case "measure": return x.measure(a[0], a[1], a[2]);
      case "set": return x.set(a[0]);
      case "head": return x.head(a[0]);
      case "lines": return x.lines();
      case "pages": return x.pages();
      case "length": return x.length(a[0]);
      case "cell": return x.cell(a[0], a[1]);
      case "page": return x.page(a[0], a[1], a[2]);
      case "cut": return x.cut(a[0], a[1]);
      case "lose": return x.lose(a[0]);
      case "copyRow": return x.copyRow(a[0], a[1], a[2], a[3], a[4]);
      case "copyLines": return x.copyLines(a[0], a[1], a[2]);
      case "copied": return x.copied();
      case "emboss": return x.emboss(a[0], a[1]);
      case "closed": return x.closed();
      case "read": return x.read(a[0], a[1], a[2]);
      case "letter": return x.letter(a[0]);
      case "failed": return x.failed(a[0], a[1] != 0);
      case "readings": return x.readings(a[0], a[1], a[2]);
      case "more": return x.more();
      case "reading": return x.reading(a[0], a[1]);
      case "judge": return x.judge(a[0]);
      case "parts": return x.parts(a[0], a[1], a[2]);
      case "unreadable": return x.unreadable(a[0], a[1], a[2]);
      case "saved": return x.saved(a[0], a[1]);
      case "place": return x.place();
      case "finds": return x.finds(a[0]);
      case "status": return x.status();
      case "digest": return x.digest();
      default: throw new IllegalStateException(name);
    }
  }
}
