import java.util.ArrayList;
import java.util.Arrays;
import java.util.List;

/**
 * The document once more, as plainly as it can be said with the whole Java library: texts, lists,
 * exceptions, recursion, copies of all TABLES for undo(). FuzzTest holds DotPress against it.
 */
final class Model {
  private static final class Refusal extends RuntimeException {
    final int status;
    final int place;

    Refusal(int status, int place) {
      super(null, null, false, false);
      this.status = status;
      this.place = place;
    }
  }

  private static final class Rule {
    String letters;
    int[] cells;
    int condition;
  }

  private static final class Table {
    int kind;
    int dots;
    int base = -1;
    int second = -1;
    boolean dropped;
    List<Rule> rules = new ArrayList<>();
    int[][] indicators = {{}, {}, {}, {}};

    Table copy() {
      Table t = new Table();
      t.kind = kind;
      t.dots = dots;
      t.base = base;
      t.second = second;
      t.dropped = dropped;
      t.indicators = indicators.clone();
      for (Rule r : rules) {
        Rule q = new Rule();
        q.letters = r.letters;
        q.cells = r.cells;
        q.condition = r.condition;
        t.rules.add(q);
      }
      return t;
    }
  }

  /** What reading looks for: a RULE, or an INDICATOR of one of four names. */
  private static final class Row {
    final char sort;
    final String letters;
    final int[] cells;

    Row(char sort, String letters, int[] cells) {
      this.sort = sort;
      this.letters = letters;
      this.cells = cells;
    }
  }

  /** CELLS that belong together: a RULE's with the indicators ahead, from a LETTER on. */
  private static final class Piece {
    final int letter;
    final int[] cells;

    Piece(int letter, int[] cells) {
      this.letter = letter;
      this.cells = cells;
    }
  }

  private static final class Word {
    String letters = "";
    List<Integer> places = new ArrayList<>();
    List<Integer> breaks = new ArrayList<>();
  }

  private List<Table> tables = new ArrayList<>();
  private final List<List<Table>> before = new ArrayList<>();
  private List<Integer> tape = new ArrayList<>();
  private String text = "";
  private List<List<Integer>> lines = new ArrayList<>();
  private List<Integer> head = new ArrayList<>();
  private String read = "";
  private final boolean[] failed = new boolean[8];
  private List<String> readings = new ArrayList<>();
  private int more = 0;
  private int width = 32;
  private int height = 25;
  private int hyphen = 36;
  private int copied = 0;
  private int closed = 0;
  private final int[] finds = new int[5];
  private int status = 0;
  private int place = -1;

  int call(String name, int[] a) {
    switch (name) {
      case "lines": return lines.size();
      case "pages": return pages();
      case "copied": return copied;
      case "closed": return closed;
      case "more": return more;
      case "place": return place;
      case "finds": return a[0] >= 0 && a[0] < 5 ? finds[a[0]] : 0;
      case "status": return status;
      case "digest": return digest();
      default: break;
    }
    int answer;
    try {
      answer = act(name, a);
      status = 0;
      place = -1;
    } catch (Refusal refusal) {
      status = refusal.status;
      place = refusal.place;
      answer = name.equals("saved") && (status == 6 || status == 7) ? 0 : -1;
    }
    if (Arrays.asList("rule", "indicator", "text", "head").contains(name)) {
      tape = new ArrayList<>();
    }
    return answer;
  }

  int tableCount() {
    return tables.size();
  }

  private static void refuseIf(boolean is, int status) {
    if (is) {
      throw new Refusal(status, -1);
    }
  }

  private int act(String name, int[] a) {
    switch (name) {
      case "feed": return feed(a);
      case "end":
        refuseIf(a[0] < 0, 5);
        refuseIf(a[0] > tape.size(), 6);
        tape = new ArrayList<>(tape.subList(0, a[0]));
        return a[0];
      case "table": return table(a[0], a[1], a[2]);
      case "join": return join(a[0], a[1]);
      case "drop": {
        Table t = alive(a[0]);
        snapshot();
        t.dropped = true;
        return 1;
      }
      case "rule": return rule(a[0], a[1], a[2]);
      case "condition": return condition(a[0], a[1], a[2]);
      case "indicator": return indicator(a[0], a[1]);
      case "undo":
        if (before.isEmpty()) {
          return 0;
        }
        tables = before.remove(before.size() - 1);
        return 1;
      case "text": return text();
      case "measure":
        refuseIf(a[0] < 1 || a[0] > 100 || a[1] < 1 || a[1] > 50 || a[2] < 1 || a[2] > 255, 6);
        width = a[0];
        height = a[1];
        hyphen = a[2];
        return 1;
      case "set":
        lines = compose(whole(a[0]));
        return lines.size();
      case "head": return head(a[0]);
      case "length": return line(a[0]).size();
      case "cell": return cellOf(line(a[0]), a[1]);
      case "page": return page(a[0], a[1], a[2]);
      case "cut": return cut(a[0], a[1]);
      case "lose":
        refuseIf(a[0] < 0 || a[0] >= lines.size(), 2);
        lines.set(a[0], null);
        return 1;
      case "copyRow": return copyRow(a[0], a[1], a[2], a[3], a[4]);
      case "copyLines": return copyLines(a[0], a[1], a[2]);
      case "emboss": return emboss(a[0], a[1]);
      case "read": return read(a[0], a[1], a[2]);
      case "letter":
        refuseIf(a[0] < 0 || a[0] >= read.length(), 2);
        return read.charAt(a[0]);
      case "failed": {
        refuseIf(a[0] < 0 || a[0] > 7, 6);
        failed[a[0]] = a[1] != 0;
        int n = 0;
        for (boolean f : failed) {
          n += f ? 1 : 0;
        }
        return n;
      }
      case "readings": return readings(a[0], a[1], a[2]);
      case "reading":
        refuseIf(a[0] < 0 || a[0] >= readings.size(), 2);
        refuseIf(a[1] < 0 || a[1] >= readings.get(a[0]).length(), 2);
        return readings.get(a[0]).charAt(a[1]);
      case "judge": return judge(a[0]);
      case "parts": return parts(a[0], a[1], a[2]);
      case "unreadable": return unreadable(a[0], a[1], a[2]);
      case "saved": return saved(a[0], a[1]);
      default: throw new IllegalStateException(name);
    }
  }

  // ---- TABLES

  private int feed(int[] a) {
    refuseIf(tape.size() + 20 > 3000, 6);
    for (int x : a) {
      for (int k = 3; k >= 0; k--) {
        tape.add((x >> 8 * k) & 255);
      }
    }
    return tape.size();
  }

  private Table alive(int t) {
    refuseIf(t < 0 || t >= tables.size() || tables.get(t).dropped, 3);
    return tables.get(t);
  }

  private Table whole(int t) {
    Table table = alive(t);
    if (table.base >= 0) {
      whole(table.base);
    }
    if (table.second >= 0) {
      whole(table.second);
    }
    return table;
  }

  private void snapshot() {
    List<Table> copy = new ArrayList<>();
    for (Table t : tables) {
      copy.add(t.copy());
    }
    before.add(copy);
  }

  private int table(int kind, int dots, int base) {
    refuseIf(kind < 0 || kind > 4 || !(dots == 6 || dots == 8) || tables.size() == 30, 6);
    Table t = new Table();
    t.kind = kind;
    t.dots = dots;
    if (kind == 1 || kind == 2 || kind == 3) {
      refuseIf(alive(base).kind > 3, 4);
      t.base = base;
    }
    snapshot();
    tables.add(t);
    return tables.size() - 1;
  }

  private int join(int first, int second) {
    refuseIf(alive(first).kind > 3, 4);
    refuseIf(alive(second).kind > 3, 4);
    refuseIf(tables.size() == 30, 6);
    Table t = new Table();
    t.kind = 5;
    t.dots = alive(first).dots == 8 || alive(second).dots == 8 ? 8 : 6;
    t.base = first;
    t.second = second;
    snapshot();
    tables.add(t);
    return tables.size() - 1;
  }

  private int[] cellsOnTape(int from, Table t) {
    int[] cells = new int[tape.size() - from];
    refuseIf(cells.length > 4, 6);
    for (int i = 0; i < cells.length; i++) {
      cells[i] = tape.get(from + i);
      refuseIf(cells[i] == 0 || cells[i] >> t.dots != 0, 6);
    }
    return cells;
  }

  private static boolean isLetter(int b) {
    return b >= 33 && b <= 125;
  }

  private int rule(int t, int condition, int m) {
    Table table = alive(t);
    refuseIf(table.kind == 5, 4);
    refuseIf(m < 0, 5);
    refuseIf(condition < 0 || condition > 5 || m == 0 || m > 8 || m > tape.size(), 6);
    Rule rule = new Rule();
    rule.condition = condition;
    rule.letters = "";
    for (int b : tape.subList(0, m)) {
      refuseIf(!isLetter(b), 6);
      rule.letters += (char) b;
    }
    rule.cells = cellsOnTape(m, table);
    refuseIf(rule.cells.length == 0 || table.rules.size() == 200, 6);
    snapshot();
    table.rules.add(rule);
    return table.rules.size() - 1;
  }

  private int condition(int t, int r, int condition) {
    Table table = alive(t);
    refuseIf(table.kind == 5, 4);
    refuseIf(r < 0 || r >= table.rules.size(), 2);
    refuseIf(condition < 0 || condition > 5, 6);
    int old = table.rules.get(r).condition;
    snapshot();
    table.rules.get(r).condition = condition;
    return old;
  }

  private int indicator(int t, int which) {
    refuseIf(which < 0 || which > 3, 6);
    Table table = alive(t);
    String kinds = which == 0 ? "012" : which == 1 ? "2" : "5";
    refuseIf(kinds.indexOf('0' + table.kind) < 0, 4);
    int[] cells = cellsOnTape(0, table);
    snapshot();
    table.indicators[which] = cells;
    return cells.length;
  }

  // ---- SETTING

  private static boolean fits(Rule r, String word, int at) {
    if (!word.startsWith(r.letters, at)) {
      return false;
    }
    String behind = word.substring(at + r.letters.length());
    switch (r.condition) {
      case 0: return true;
      case 1: return at == 0;
      case 2: return at > 0 && !behind.isEmpty();
      case 3: return behind.isEmpty();
      case 4: return at == 0 && behind.isEmpty();
      default: return behind.matches("(?s)[^A-Za-z0-9].*");
    }
  }

  private static Rule own(Table t, String word, int at) {
    Rule best = null;
    for (Rule r : t.rules) {
      if (fits(r, word, at) && (best == null || r.letters.length() > best.letters.length())) {
        best = r;
      }
    }
    return best;
  }

  private static String small(String word, int at) {
    char c = word.charAt(at);
    if (c >= 'A' && c <= 'Z') {
      return word.substring(0, at) + Character.toLowerCase(c) + word.substring(at + 1);
    }
    return word;
  }

  private Rule find(Table t, String word, int at) {
    finds[t.kind]++;
    switch (t.kind) {
      case 0:
      case 4:
        return own(t, word, at);
      case 1:
        return contracted(t, word, at);
      case 2:
        if (Character.isDigit(word.charAt(at))) {
          finds[0]++;
          return own(t, word, at);
        }
        return find(tables.get(t.base), word, at);
      default:
        finds[1]++;
        return contracted(t, small(word, at), at);
    }
  }

  private Rule contracted(Table t, String word, int at) {
    finds[0]++;
    Rule mine = own(t, word, at);
    Rule under = find(tables.get(t.base), word, at);
    if (mine == null || under == null) {
      return mine == null ? under : mine;
    }
    return under.letters.length() > mine.letters.length() ? under : mine;
  }

  private static int[] plus(int[] a, int[] b) {
    int[] all = Arrays.copyOf(a, a.length + b.length);
    System.arraycopy(b, 0, all, a.length, b.length);
    return all;
  }

  private static int size(List<Piece> pieces) {
    int n = 0;
    for (Piece p : pieces) {
      n += p.cells.length;
    }
    return n;
  }

  private void setPart(Table t, String word, int offset, List<Integer> places, List<Piece> out) {
    for (int at = 0; at < word.length();) {
      char b = word.charAt(at);
      int[] ahead = {};
      Rule r = find(t, word, at);
      if (r == null && t.kind <= 2 && b >= 'A' && b <= 'Z' && t.indicators[0].length > 0) {
        ahead = t.indicators[0];
        r = find(t, small(word, at), at);
      } else if (t.kind == 2 && Character.isDigit(b)
          && (at == 0 || !Character.isDigit(word.charAt(at - 1)))) {
        ahead = t.indicators[1];
      }
      if (r == null) {
        throw new Refusal(7, places.get(offset + at));
      }
      out.add(new Piece(offset + at, plus(ahead, r.cells)));
      refuseIf(size(out) > 200, 6);
      at += r.letters.length();
    }
  }

  private List<Piece> setWord(Table t, Word word) {
    List<Piece> out = new ArrayList<>();
    if (t.kind != 5) {
      setPart(t, word.letters, 0, word.places, out);
      return out;
    }
    int from = 0;
    boolean inSecond = false;
    for (boolean goesOn = true; goesOn;) {
      int to = word.letters.indexOf(inSecond ? '>' : '<', from);
      goesOn = to >= 0;
      String part = word.letters.substring(from, goesOn ? to : word.letters.length());
      setPart(tables.get(inSecond ? t.second : t.base), part, from, word.places, out);
      if (goesOn) {
        int[] turn = t.indicators[inSecond ? 3 : 2];
        if (turn.length == 0) {
          throw new Refusal(7, word.places.get(to));
        }
        out.add(new Piece(to, turn));
        inSecond = !inSecond;
        from = to + 1;
      }
    }
    refuseIf(size(out) > 200, 6);
    return out;
  }

  private static int[] cells(List<Piece> pieces) {
    int[] all = {};
    for (Piece p : pieces) {
      all = plus(all, p.cells);
    }
    return all;
  }

  // ---- TEXTS

  private int text() {
    StringBuilder more = new StringBuilder();
    for (int b : tape) {
      refuseIf(b != 10 && !(b >= 32 && b <= 126), 6);
      more.append((char) b);
    }
    refuseIf(text.length() + more.length() > 500, 6);
    text = tape.isEmpty() ? "" : text + more;
    return text.length();
  }

  /** Where the lines of TEXT begin. */
  private List<Integer> lineBegins() {
    List<Integer> begins = new ArrayList<>();
    for (int i = 0; i < text.length(); i++) {
      if (i == 0 || text.charAt(i - 1) == 10) {
        begins.add(i);
      }
    }
    return begins;
  }

  private String lineFrom(int begin) {
    int end = text.indexOf(10, begin);
    return text.substring(begin, end < 0 ? text.length() : end);
  }

  private List<Word> wordsFrom(int begin) {
    List<Word> words = new ArrayList<>();
    String line = lineFrom(begin);
    int i = line.startsWith("^") ? 1 : 0;
    while (i < line.length()) {
      Word w = new Word();
      while (i < line.length() && line.charAt(i) != ' ') {
        if (line.charAt(i) == '~') {
          w.breaks.add(w.letters.length());
        } else {
          w.letters += line.charAt(i);
          w.places.add(begin + i);
        }
        i++;
      }
      if (!w.letters.isEmpty()) {
        words.add(w);
      }
      i++;
    }
    return words;
  }

  /** Numbers of CELLS behind which the WORD may be broken. */
  private List<Integer> breaksOf(Table t, Word w, List<Piece> pieces) {
    List<Integer> all = new ArrayList<>();
    int ahead = 0;
    for (Piece p : pieces) {
      boolean is = p.letter > 0 && w.breaks.contains(p.letter) && t.kind <= 3;
      if (is && t.kind == 2) {
        is = !Character.isDigit(w.letters.charAt(p.letter))
            && !Character.isDigit(w.letters.charAt(p.letter - 1));
      }
      if (is && t.kind == 3) {
        is = w.letters.length() >= 6;
      }
      if (is) {
        all.add(ahead);
      }
      ahead += p.cells.length;
    }
    return all;
  }

  private List<List<Integer>> compose(Table t) {
    List<List<Integer>> out = new ArrayList<>();
    for (int begin : lineBegins()) {
      refuseIf(out.size() == 200, 6);
      int first = out.size();
      out.add(new ArrayList<>());
      for (Word w : wordsFrom(begin)) {
        List<Piece> pieces = setWord(t, w);
        lay(out, cells(pieces), 0, breaksOf(t, w, pieces));
      }
      if (lineFrom(begin).startsWith("^")) {
        for (List<Integer> line : out.subList(first, out.size())) {
          int free = line.isEmpty() ? 0 : width - line.size();
          for (int k = 0; k < free / 2; k++) {
            line.add(0, 0);
          }
        }
      }
    }
    return out;
  }

  private void lay(List<List<Integer>> out, int[] cells, int from, List<Integer> breaks) {
    List<Integer> line = out.get(out.size() - 1);
    List<Integer> longer = new ArrayList<>(line);
    if (!line.isEmpty()) {
      longer.add(0);
    }
    List<Integer> rest = new ArrayList<>();
    for (int i = from; i < cells.length; i++) {
      rest.add(cells[i]);
    }
    if (longer.size() + rest.size() <= width) {
      longer.addAll(rest);
      out.set(out.size() - 1, longer);
      return;
    }
    for (int k = breaks.size() - 1; k >= 0; k--) {
      int stop = breaks.get(k);
      if (stop > from && longer.size() + stop - from + 1 <= width) {
        longer.addAll(rest.subList(0, stop - from));
        longer.add(hyphen);
        out.set(out.size() - 1, longer);
        refuseIf(out.size() == 200, 6);
        out.add(new ArrayList<>());
        lay(out, cells, stop, breaks);
        return;
      }
    }
    if (line.isEmpty()) {
      line.addAll(rest);
      return;
    }
    refuseIf(out.size() == 200, 6);
    out.add(new ArrayList<>());
    lay(out, cells, from, breaks);
  }

  private int head(int t) {
    refuseIf(tape.size() > 40, 6);
    Word w = new Word();
    for (int b : tape) {
      refuseIf(!isLetter(b), 6);
      w.places.add(w.letters.length());
      w.letters += (char) b;
    }
    List<Integer> made = new ArrayList<>();
    for (int c : cells(setWord(whole(t), w))) {
      made.add(c);
    }
    head = made.size() > width ? new ArrayList<>(made.subList(0, width)) : made;
    return head.size();
  }

  // ---- LINES and PAGES

  private List<Integer> line(int l) {
    refuseIf(l < 0 || l >= lines.size(), 2);
    refuseIf(lines.get(l) == null, 1);
    return lines.get(l);
  }

  private static int cellOf(List<Integer> line, int i) {
    refuseIf(i < 0 || i >= line.size(), 2);
    return line.get(i);
  }

  private boolean headed() {
    return !head.isEmpty() && height > 1;
  }

  private int pages() {
    int n = 0;
    for (int done = 0; done < lines.size(); done += headed() ? height - 1 : height) {
      n++;
    }
    return n;
  }

  private int page(int p, int l, int i) {
    int each = headed() ? height - 1 : height;
    refuseIf(p < 0 || p >= pages() || l < 0 || l >= height, 2);
    if (headed() && l == 0) {
      return cellOf(head, i);
    }
    return cellOf(line(p * each + l - (headed() ? 1 : 0)), i);
  }

  private int cut(int l, int n) {
    refuseIf(n > 200, 6);
    refuseIf(n < 0, 5);
    List<Integer> old = line(l);
    List<Integer> made = new ArrayList<>();
    for (int i = 0; i < n; i++) {
      made.add(i < old.size() ? old.get(i) : 0);
    }
    lines.set(l, made);
    return n;
  }

  private int copyRow(int from, int at, int to, int where, int n) {
    refuseIf(from < 0 || from >= lines.size(), 2);
    refuseIf(to < 0 || to >= lines.size(), 2);
    List<Integer> a = line(from);
    List<Integer> b = line(to);
    refuseIf(n < 0 || at < 0 || where < 0, 2);
    refuseIf((long) at + n > a.size() || (long) where + n > b.size(), 2);
    List<Integer> part = new ArrayList<>(a.subList(at, at + n));
    for (int i = 0; i < n; i++) {
      b.set(where + i, part.get(i));
    }
    return n;
  }

  private int copyLines(int from, int to, int n) {
    refuseIf(n > 10, 6);
    refuseIf(n < 0, 5);
    copied = 0;
    for (int i = 0; i < n; i++) {
      refuseIf(to + i < 0 || to + i >= lines.size(), 2);
      lines.set(to + i, new ArrayList<>(line(from + i)));
      copied++;
    }
    return n;
  }

  private int emboss(int from, int n) {
    refuseIf(n > 200, 6);
    refuseIf(n < 0, 5);
    int dots = 0;
    for (int l = from; l - from < n; l++) {
      closed++;
      refuseIf(l < 0 || l >= lines.size(), 2);
      if (lines.get(l) == null) {
        continue;
      }
      if (lines.get(l).size() > width) {
        return dots;
      }
      for (int c : lines.get(l)) {
        dots += Integer.bitCount(c);
      }
    }
    return dots;
  }

  // ---- READING

  private List<Row> rows(Table t, boolean inSecond) {
    List<Row> rows = new ArrayList<>();
    if (t.kind == 5) {
      rows.addAll(rows(tables.get(inSecond ? t.second : t.base), false));
      if (t.indicators[inSecond ? 3 : 2].length > 0) {
        rows.add(new Row(inSecond ? '>' : '<', inSecond ? ">" : "<", t.indicators[inSecond ? 3 : 2]));
      }
      return rows;
    }
    for (Table u = t; u != null; u = u.base < 0 ? null : tables.get(u.base)) {
      for (Rule r : u.rules) {
        rows.add(new Row('r', r.letters, r.cells));
      }
    }
    if (t.indicators[0].length > 0) {
      rows.add(new Row('c', "", t.indicators[0]));
    }
    if (t.indicators[1].length > 0) {
      rows.add(new Row('n', "", t.indicators[1]));
    }
    return rows;
  }

  private static boolean isSmallRule(Row row) {
    return row.sort == 'r' && row.letters.charAt(0) >= 'a' && row.letters.charAt(0) <= 'z';
  }

  private static boolean stands(Row row, List<int[]> cells, int at) {
    if (at + row.cells.length > cells.size()) {
      return false;
    }
    for (int i = 0; i < row.cells.length; i++) {
      if (cells.get(at + i)[0] != row.cells[i]) {
        return false;
      }
    }
    return true;
  }

  /** Each of the cells is a CELL with its place; no BLANK is among them. */
  private String readWord(Table t, List<int[]> cells) {
    StringBuilder out = new StringBuilder();
    boolean inSecond = false;
    Row last = null;
    int at = 0;
    while (at < cells.size()) {
      Row best = null;
      for (Row row : rows(t, inSecond)) {
        if (stands(row, cells, at) && (best == null || row.cells.length > best.cells.length)) {
          best = row;
        }
      }
      boolean afterCapital = last != null && last.sort == 'c';
      if (best == null || (afterCapital && !isSmallRule(best))) {
        throw new Refusal(9, cells.get(at)[1]);
      }
      out.append(afterCapital ? small2great(best.letters) : best.letters);
      inSecond = best.sort == '<' || (inSecond && best.sort != '>');
      last = best;
      at += best.cells.length;
    }
    if (last != null && last.sort == 'c') {
      throw new Refusal(9, cells.get(at - 1)[1] + 1);
    }
    return out.toString();
  }

  private static String small2great(String letters) {
    return Character.toUpperCase(letters.charAt(0)) + letters.substring(1);
  }

  private int read(int t, int from, int n) {
    Table table = whole(t);
    refuseIf(n < 0, 5);
    for (int i = 0; i < n; i++) {
      line(from + i);
    }
    List<List<int[]>> words = new ArrayList<>();
    List<int[]> word = new ArrayList<>();
    for (int l = from; l - from < n; l++) {
      List<Integer> line = lines.get(l);
      boolean goesOn = !line.isEmpty() && line.get(line.size() - 1) == hyphen;
      for (int i = 0; i < line.size() - (goesOn ? 1 : 0); i++) {
        if (line.get(i) != 0) {
          word.add(new int[] {line.get(i), l * 1000 + i});
        } else {
          words.add(word);
          word = new ArrayList<>();
        }
      }
      if (!goesOn) {
        words.add(word);
        word = new ArrayList<>();
      }
    }
    words.add(word);
    words.removeIf(List::isEmpty);
    read = "";
    List<String> given = new ArrayList<>();
    for (List<int[]> w : words) {
      given.add(readWord(table, w));
    }
    String all = String.join(" ", given);
    refuseIf(all.length() > 4000, 6);
    read = all;
    return read.length();
  }

  private int readings(int t, int l, int most) {
    refuseIf(most < 1 || most > 50, 6);
    Table table = whole(t);
    List<Integer> line = line(l);
    refuseIf(line.size() > 100, 6);
    List<String> all = new ArrayList<>();
    ways(table, line, 0, new ArrayList<>(), all, most + 1);
    more = all.size() > most ? 1 : 0;
    readings = new ArrayList<>(all.subList(0, Math.min(most, all.size())));
    return readings.size();
  }

  private boolean alike(int a, int b) {
    for (int d = 0; d < 8; d++) {
      if (!failed[d] && (a >> d & 1) != (b >> d & 1)) {
        return false;
      }
    }
    return true;
  }

  /** All ways, also those that are none; that is seen at their end. A BLANK is null here. */
  private void ways(Table t, List<Integer> line, int at, List<Row> way, List<String> all, int most) {
    if (all.size() >= most) {
      return;
    }
    if (at == line.size()) {
      String reading = readingOf(way);
      if (reading != null) {
        all.add(reading);
      }
      return;
    }
    if (alike(0, line.get(at))) {
      way.add(null);
      ways(t, line, at + 1, way, all, most);
      way.remove(way.size() - 1);
    }
    boolean inSecond = false;
    for (Row row : way) {
      inSecond = row != null && (row.sort == '<' || (inSecond && row.sort != '>'));
    }
    for (Row row : rows(t, inSecond)) {
      boolean is = at + row.cells.length <= line.size();
      for (int i = 0; is && i < row.cells.length; i++) {
        is = alike(row.cells[i], line.get(at + i));
      }
      if (is) {
        way.add(row);
        ways(t, line, at + row.cells.length, way, all, most);
        way.remove(way.size() - 1);
      }
    }
  }

  private static String readingOf(List<Row> way) {
    StringBuilder out = new StringBuilder();
    for (int i = 0; i < way.size(); i++) {
      Row row = way.get(i);
      boolean afterCapital = i > 0 && way.get(i - 1) != null && way.get(i - 1).sort == 'c';
      if (afterCapital && (row == null || !isSmallRule(row))) {
        return null;
      }
      out.append(row == null ? " " : afterCapital ? small2great(row.letters) : row.letters);
    }
    Row last = way.isEmpty() ? null : way.get(way.size() - 1);
    return last != null && last.sort == 'c' ? null : out.toString();
  }

  private boolean isShort(int t) {
    if (t < 0) {
      return false;
    }
    Table table = tables.get(t);
    return table.kind == 3 || isShort(table.base) || isShort(table.second);
  }

  private boolean isReadable(List<Row> rows) {
    for (Row a : rows) {
      if (a.cells[a.cells.length - 1] == hyphen) {
        return false;
      }
      for (Row b : rows) {
        boolean begins = a != b && a.cells.length <= b.cells.length
            && Arrays.equals(a.cells, Arrays.copyOf(b.cells, a.cells.length));
        if (begins) {
          return false;
        }
      }
    }
    return true;
  }

  private int judge(int t) {
    refuseIf(alive(t).kind == 4, 4);
    Table table = whole(t);
    boolean is = !isShort(t) && isReadable(rows(table, false))
        && (table.kind != 5 || isReadable(rows(table, true)));
    return is ? 1 : 0;
  }

  private int parts(int t, int a, int b) {
    List<Row> rows = rows(whole(t), false);
    refuseIf(a < 0 || a >= rows.size() || b < 0 || b >= rows.size(), 2);
    int[] x = rows.get(a).cells;
    int[] y = rows.get(b).cells;
    int n = 0;
    while (n < x.length && n < y.length && x[n] == y[n]) {
      n++;
    }
    return n == x.length || n == y.length ? -1 - n : n;
  }

  private int unreadable(int t, int n, int most) {
    refuseIf(n < 1 || n > 6 || most < 1 || most > 5000, 6);
    Table table = whole(t);
    java.util.TreeSet<Character> alphabet = new java.util.TreeSet<>();
    List<Row> all = new ArrayList<>(rows(table, false));
    if (table.kind == 5) {
      all.addAll(rows(table, true));
      alphabet.add('<');
      alphabet.add('>');
    }
    for (Row row : all) {
      for (char c : row.sort == 'r' ? row.letters.toCharArray() : new char[0]) {
        alphabet.add(c);
        if (c >= 'a' && c <= 'z') {
          alphabet.add(Character.toUpperCase(c));
        }
      }
    }
    List<String> words = new ArrayList<>();
    words.add("");
    int tried = 0;
    for (int length = 1; length <= n; length++) {
      List<String> longer = new ArrayList<>();
      for (String w : words) {
        for (char c : alphabet) {
          if (longer.size() <= 5001) {
            longer.add(w + c);
          }
        }
      }
      words = longer;
      for (String w : words) {
        refuseIf(++tried > most, 8);
        if (isLost(table, w)) {
          read = w;
          return length;
        }
      }
    }
    return 0;
  }

  private boolean isLost(Table t, String letters) {
    Word w = new Word();
    w.letters = letters;
    for (int i = 0; i < letters.length(); i++) {
      w.places.add(i);
    }
    List<int[]> cells = new ArrayList<>();
    try {
      for (int c : cells(setWord(t, w))) {
        cells.add(new int[] {c, 0});
      }
    } catch (Refusal unknown) {
      return false;
    }
    try {
      return !readWord(t, cells).equals(letters);
    } catch (Refusal wrong) {
      return true;
    }
  }

  private int saved(int a, int b) {
    Table one = whole(a);
    Table other = whole(b);
    return cellsOfText(one) - cellsOfText(other);
  }

  private int cellsOfText(Table t) {
    int n = 0;
    for (int begin : lineBegins()) {
      for (Word w : wordsFrom(begin)) {
        n += cells(setWord(t, w)).length;
      }
    }
    return n;
  }

  private int digest() {
    List<Integer> all = new ArrayList<>();
    all.add(lines.size());
    for (List<Integer> line : lines) {
      all.add(line == null ? -1 : line.size());
      all.addAll(line == null ? new ArrayList<>() : line);
    }
    all.add(read.length());
    for (char c : read.toCharArray()) {
      all.add((int) c);
    }
    for (int f : finds) {
      all.add(f);
    }
    all.add(copied);
    all.add(closed);
    int d = 17;
    for (int x : all) {
      d = d * 31 + x;
    }
    return d;
  }
}
