import java.util.ArrayList;
import java.util.Arrays;

/** A press for raised writing. The document's promises tell what each call does. */
public final class DotPress {
  /** KINDS of a TABLE. */
  private static final int PLAIN = 0;
  private static final int CONTRACTED = 1;
  private static final int NUMERIC = 2;
  private static final int SHORT = 3;
  private static final int MUSIC = 4;
  private static final int JOINED = 5;

  /** What a ROW is: the first four are the numbers of the INDICATORS. */
  private static final int CAPITAL = 0;
  private static final int NUMBER = 1;
  private static final int CHANGE = 2;
  private static final int BACK = 3;
  private static final int RULE = 4;

  /** STATUS. */
  private static final int FINE = 0;
  private static final int LACKING = 1;
  private static final int BEYOND = 2;
  private static final int NO_TABLE = 3;
  private static final int OTHER_KIND = 4;
  private static final int BELOW_ZERO = 5;
  private static final int NOT_AS_TOLD = 6;
  private static final int UNKNOWN = 7;
  private static final int SPENT = 8;
  private static final int WRONG = 9;

  private static final int NEWLINE = 10;
  private static final int SPACE = 32;
  private static final int FIRST_LETTER = 33;
  private static final int LAST_LETTER = 125;
  private static final int SOFT_BREAK = 126;
  private static final int TO_SMALL = 32;

  private static final int MOST_TAPE = 3000;
  private static final int MOST_TEXT = 500;
  private static final int MOST_HEAD_BYTES = 40;
  private static final int MOST_TABLES = 30;
  private static final int MOST_RULES = 200;
  private static final int MOST_LETTERS = 8;
  private static final int MOST_ROW_CELLS = 4;
  private static final int MOST_LINES = 200;
  private static final int MOST_CELLS = 200;
  private static final int MOST_READ = 4000;
  private static final int MOST_CALLS = 512;
  private static final int MOST_COPIED = 10;
  private static final int MOST_READINGS = 50;
  private static final int MOST_READING_CELLS = 100;
  private static final int LONGEST_TRIED = 6;
  private static final int MOST_TRIED = 5000;
  /** Far above what any call needs; it only makes the end of a loop plain. */
  private static final int NEVER_REACHED = 1000000;

  /** What Source.step comes to in TEXT. */
  private static final int TEXT_ENDS = 0;
  private static final int LINE_BEGINS = 1;
  private static final int WORD_READY = 2;
  private static final int LINE_ENDS = 3;

  private final Ints tape = new Ints(MOST_TAPE);
  private final Ints written = new Ints(MOST_TEXT);
  private final Ints bytesRead = new Ints(MOST_READ);
  private final Ints header = new Ints(MOST_CELLS);
  private final Tables tables = new Tables();
  private final Source source = new Source();
  private final Setting word = new Setting();
  private final Reader reader = new Reader();
  private final Readings found = new Readings(reader);
  private Sheet sheet = new Sheet();
  private Sheet draft = new Sheet();
  private int width = 32;
  private int height = 25;
  private int hyphen = 36;
  private int failedDots = 0;
  private int linesCopied = 0;
  private int linesClosed = 0;
  private int latestStatus = FINE;
  private int latestPlace = -1;

  public DotPress() {
  }

  // ---- the TAPE

  public int feed(int a, int b, int c, int d, int e) {
    if (tape.size + 20 > MOST_TAPE) {
      return refuse(NOT_AS_TOLD);
    }
    feedFour(a);
    feedFour(b);
    feedFour(c);
    feedFour(d);
    feedFour(e);
    return done(tape.size);
  }

  private void feedFour(int bytes) {
    for (int shift = 24; shift >= 0; shift -= 8) {
      tape.add((bytes >>> shift) & 255);
    }
  }

  public int end(int n) {
    if (n < 0) {
      return refuse(BELOW_ZERO);
    }
    if (n > tape.size) {
      return refuse(NOT_AS_TOLD);
    }
    tape.keep(n);
    return done(n);
  }

  // ---- TABLES

  public int table(int kind, int dots, int base) {
    if (kind < 0 || kind > MUSIC || (dots != 6 && dots != 8) || tables.isFull()) {
      return refuse(NOT_AS_TOLD);
    }
    if (kind == PLAIN || kind == MUSIC) {
      return done(tables.make(new Table(kind, dots, null, null)));
    }
    Table under = tables.alive(base);
    if (under == null || under.kind > SHORT) {
      return refuse(under == null ? NO_TABLE : OTHER_KIND);
    }
    return done(tables.make(new Table(kind, dots, under, null)));
  }

  public int join(int first, int second) {
    Table one = tables.alive(first);
    if (one == null || one.kind > SHORT) {
      return refuse(one == null ? NO_TABLE : OTHER_KIND);
    }
    Table other = tables.alive(second);
    if (other == null || other.kind > SHORT) {
      return refuse(other == null ? NO_TABLE : OTHER_KIND);
    }
    if (tables.isFull()) {
      return refuse(NOT_AS_TOLD);
    }
    return done(tables.make(new Table(JOINED, Math.max(one.dots, other.dots), one, other)));
  }

  public int drop(int t) {
    Table table = tables.alive(t);
    if (table == null) {
      return refuse(NO_TABLE);
    }
    tables.remember(new Change(Change.DROPPED, table, null, 0));
    table.dropped = true;
    return done(1);
  }

  public int rule(int t, int condition, int m) {
    int answer = addRule(t, condition, m);
    tape.clear();
    return answer;
  }

  private int addRule(int t, int condition, int m) {
    Table table = tables.alive(t);
    if (table == null) {
      return refuse(NO_TABLE);
    }
    if (table.kind == JOINED) {
      return refuse(OTHER_KIND);
    }
    if (m < 0) {
      return refuse(BELOW_ZERO);
    }
    if (!isCondition(condition) || m < 1 || m > MOST_LETTERS || m >= tape.size
        || !tape.isWithin(0, m, FIRST_LETTER, LAST_LETTER)
        || !isRowOfCells(m, table.dots) || table.rules.size() >= MOST_RULES) {
      return refuse(NOT_AS_TOLD);
    }
    Row rule = new Row(RULE, tape.slice(0, m), tape.slice(m, tape.size));
    rule.condition = condition;
    table.append(rule);
    tables.remember(new Change(Change.RULED, table, rule, 0));
    return done(table.rules.size() - 1);
  }

  private static boolean isCondition(int condition) {
    return condition >= 0 && condition <= 5;
  }

  /** Whether the TAPE, from one byte on, is CELLS as a ROW of so many DOTS may have them. */
  private boolean isRowOfCells(int from, int dots) {
    return tape.size - from <= MOST_ROW_CELLS
        && tape.isWithin(from, tape.size, 1, (1 << dots) - 1);
  }

  public int condition(int t, int r, int condition) {
    Table table = tables.alive(t);
    if (table == null) {
      return refuse(NO_TABLE);
    }
    if (table.kind == JOINED) {
      return refuse(OTHER_KIND);
    }
    if (r < 0 || r >= table.rules.size()) {
      return refuse(BEYOND);
    }
    if (!isCondition(condition)) {
      return refuse(NOT_AS_TOLD);
    }
    Row rule = table.rules.get(r);
    int before = rule.condition;
    tables.remember(new Change(Change.CONDITIONED, table, rule, before));
    rule.condition = condition;
    return done(before);
  }

  public int indicator(int t, int which) {
    int answer = changeIndicator(t, which);
    tape.clear();
    return answer;
  }

  private int changeIndicator(int t, int which) {
    if (which < CAPITAL || which > BACK) {
      return refuse(NOT_AS_TOLD);
    }
    Table table = tables.alive(t);
    if (table == null) {
      return refuse(NO_TABLE);
    }
    if (!table.mayHave(which)) {
      return refuse(OTHER_KIND);
    }
    if (!isRowOfCells(0, table.dots)) {
      return refuse(NOT_AS_TOLD);
    }
    tables.remember(new Change(Change.INDICATED, table, table.indicators[which], which));
    table.indicators[which] =
        tape.size == 0 ? null : new Row(which, tape.slice(0, 0), tape.slice(0, tape.size));
    return done(tape.size);
  }

  public int undo() {
    return done(tables.takeBack() ? 1 : 0);
  }

  // ---- TEXTS

  public int text() {
    int answer = addText();
    tape.clear();
    return answer;
  }

  private int addText() {
    for (int i = 0; i < tape.size; i++) {
      int b = tape.at(i);
      if (b != NEWLINE && (b < SPACE || b > SOFT_BREAK)) {
        return refuse(NOT_AS_TOLD);
      }
    }
    if (written.size + tape.size > MOST_TEXT) {
      return refuse(NOT_AS_TOLD);
    }
    if (tape.size == 0) {
      written.clear();
    }
    written.addAll(tape);
    return done(written.size);
  }

  public int measure(int width, int height, int hyphen) {
    if (width < 1 || width > 100 || height < 1 || height > 50 || hyphen < 1 || hyphen > 255) {
      return refuse(NOT_AS_TOLD);
    }
    this.width = width;
    this.height = height;
    this.hyphen = hyphen;
    return done(1);
  }

  public int set(int t) {
    Table table = tables.whole(t);
    if (table == null) {
      return refuse(NO_TABLE);
    }
    // in a draft, so that a refused call leaves the LINES that are there
    draft.clear();
    source.restart();
    int why = FINE;
    int comes = source.step(written, word);
    for (int n = 0; why == FINE && comes != TEXT_ENDS && n < NEVER_REACHED; n++) {
      boolean hasRoom = true;
      if (comes == LINE_BEGINS) {
        hasRoom = draft.beginText();
      } else if (comes == LINE_ENDS) {
        draft.endText(source.centred, width);
      } else {
        why = word.setBy(table);
        hasRoom = why != FINE || draft.take(word, table.kind, width, hyphen);
      }
      if (!hasRoom) {
        why = NOT_AS_TOLD;
      } else if (why == FINE) {
        comes = source.step(written, word);
      }
    }
    return why == FINE ? publish() : refuseAt(why, word.placeOfUnknown());
  }

  private int publish() {
    Sheet before = sheet;
    sheet = draft;
    draft = before;
    return done(sheet.count);
  }

  public int head(int t) {
    boolean isWord = tape.size <= MOST_HEAD_BYTES
        && tape.isWithin(0, tape.size, FIRST_LETTER, LAST_LETTER);
    word.clear();
    for (int i = 0; isWord && i < tape.size; i++) {
      word.put(tape.at(i), i);
    }
    tape.clear();
    if (!isWord) {
      return refuse(NOT_AS_TOLD);
    }
    Table table = tables.whole(t);
    if (table == null) {
      return refuse(NO_TABLE);
    }
    int why = word.setBy(table);
    if (why != FINE) {
      return refuseAt(why, word.placeOfUnknown());
    }
    header.clear();
    for (int i = 0; i < word.count && i < width; i++) {
      header.add(word.cells[i]);
    }
    return done(header.size);
  }

  public int lines() {
    return sheet.count;
  }

  public int pages() {
    int each = linesOfPage();
    return (sheet.count + each - 1) / each;
  }

  private boolean pagesHaveHeader() {
    return header.size > 0 && height >= 2;
  }

  /** At least 1: a HEAD takes its place only where HEIGHT is 2 or more. */
  private int linesOfPage() {
    return Math.max(1, pagesHaveHeader() ? height - 1 : height);
  }

  public int length(int l) {
    Line line = sheet.present(l);
    return line == null ? refuse(sheet.whyNone(l)) : done(line.size);
  }

  public int cell(int l, int i) {
    return cellOfLine(l, i);
  }

  private int cellOfLine(int l, int i) {
    Line line = sheet.present(l);
    if (line == null) {
      return refuse(sheet.whyNone(l));
    }
    return i < 0 || i >= line.size ? refuse(BEYOND) : done(line.cells[i]);
  }

  public int page(int p, int l, int i) {
    if (p < 0 || p >= pages() || l < 0 || l >= height) {
      return refuse(BEYOND);
    }
    int ahead = pagesHaveHeader() ? 1 : 0;
    if (l < ahead) {
      return i < 0 || i >= header.size ? refuse(BEYOND) : done(header.at(i));
    }
    return cellOfLine(p * linesOfPage() + l - ahead, i);
  }

  public int cut(int l, int n) {
    if (n > MOST_CELLS) {
      return refuse(NOT_AS_TOLD);
    }
    if (n < 0) {
      return refuse(BELOW_ZERO);
    }
    Line line = sheet.present(l);
    if (line == null) {
      return refuse(sheet.whyNone(l));
    }
    line.resize(n);
    return done(n);
  }

  public int lose(int l) {
    Line line = sheet.at(l);
    if (line == null) {
      return refuse(BEYOND);
    }
    line.lacking = true;
    return done(1);
  }

  public int copyRow(int from, int at, int to, int place, int n) {
    Line giver = sheet.at(from);
    Line taker = sheet.at(to);
    if (giver == null || taker == null) {
      return refuse(BEYOND);
    }
    if (giver.lacking || taker.lacking) {
      return refuse(LACKING);
    }
    if (!giver.hasCells(at, n) || !taker.hasCells(place, n)) {
      return refuse(BEYOND);
    }
    System.arraycopy(giver.cells, at, taker.cells, place, n);
    return done(n);
  }

  public int copyLines(int from, int to, int n) {
    if (n > MOST_COPIED) {
      return refuse(NOT_AS_TOLD);
    }
    if (n < 0) {
      return refuse(BELOW_ZERO);
    }
    linesCopied = 0;
    for (int i = 0; i < n; i++) {
      Line giver = sheet.at(from + i);
      Line taker = sheet.at(to + i);
      if (giver == null || taker == null) {
        return refuse(BEYOND);
      }
      if (giver.lacking) {
        return refuse(LACKING);
      }
      taker.become(giver);
      linesCopied++;
    }
    return done(n);
  }

  public int copied() {
    return linesCopied;
  }

  public int emboss(int from, int n) {
    if (n > MOST_LINES) {
      return refuse(NOT_AS_TOLD);
    }
    if (n < 0) {
      return refuse(BELOW_ZERO);
    }
    int dots = 0;
    for (int i = 0; i < n; i++) {
      linesClosed++;
      Line line = sheet.at(from + i);
      if (line == null) {
        return refuse(BEYOND);
      }
      if (!line.lacking && line.size > width) {
        return done(dots);
      }
      dots += line.lacking ? 0 : line.dots();
    }
    return done(dots);
  }

  public int closed() {
    return linesClosed;
  }

  // ---- READING

  public int read(int t, int from, int n) {
    Table table = tables.whole(t);
    if (table == null) {
      return refuse(NO_TABLE);
    }
    if (n < 0) {
      return refuse(BELOW_ZERO);
    }
    for (int i = 0; i < n; i++) {
      if (sheet.present(from + i) == null) {
        return refuse(sheet.whyNone(from + i));
      }
    }
    chainLines(from, n);
    reader.gather(table);
    boolean isRead = reader.decode();
    bytesRead.clear();
    if (!isRead) {
      return refuseAt(WRONG, reader.placeOfWrong());
    }
    if (reader.bytes.size > MOST_READ) {
      return refuse(NOT_AS_TOLD);
    }
    bytesRead.addAll(reader.bytes);
    return done(bytesRead.size);
  }

  private void chainLines(int from, int n) {
    reader.clearCells();
    for (int i = 0; i < n; i++) {
      Line line = sheet.at(from + i);
      if (line != null) {
        reader.chain(line, from + i, hyphen, i == n - 1);
      }
    }
  }

  public int letter(int i) {
    return i < 0 || i >= bytesRead.size ? refuse(BEYOND) : done(bytesRead.at(i));
  }

  public int failed(int d, boolean is) {
    if (d < 0 || d > 7) {
      return refuse(NOT_AS_TOLD);
    }
    int dot = 1 << d;
    failedDots = is ? failedDots | dot : failedDots & ~dot;
    return done(Integer.bitCount(failedDots));
  }

  public int readings(int t, int l, int most) {
    if (most < 1 || most > MOST_READINGS) {
      return refuse(NOT_AS_TOLD);
    }
    Table table = tables.whole(t);
    if (table == null) {
      return refuse(NO_TABLE);
    }
    Line line = sheet.present(l);
    if (line == null) {
      return refuse(sheet.whyNone(l));
    }
    if (line.size > MOST_READING_CELLS) {
      return refuse(NOT_AS_TOLD);
    }
    reader.gather(table);
    found.collect(line, 255 & ~failedDots, most);
    return done(found.count);
  }

  public int more() {
    return found.leftSome ? 1 : 0;
  }

  public int reading(int k, int i) {
    int b = found.byteOf(k, i);
    return b < 0 ? refuse(BEYOND) : done(b);
  }

  public int judge(int t) {
    Table table = tables.alive(t);
    if (table == null) {
      return refuse(NO_TABLE);
    }
    if (table.kind == MUSIC) {
      return refuse(OTHER_KIND);
    }
    if (tables.whole(t) == null) {
      return refuse(NO_TABLE);
    }
    if (table.hasShort()) {
      return done(0);
    }
    reader.gather(table);
    boolean isReadable = Reader.isReadable(reader.first, hyphen)
        && Reader.isReadable(reader.second, hyphen);
    return done(isReadable ? 1 : 0);
  }

  public int parts(int t, int a, int b) {
    Table table = tables.whole(t);
    if (table == null) {
      return refuse(NO_TABLE);
    }
    reader.gather(table);
    int rows = reader.first.size();
    if (a < 0 || a >= rows || b < 0 || b >= rows) {
      return refuse(BEYOND);
    }
    Row one = reader.first.get(a);
    Row other = reader.first.get(b);
    int alike = one.alike(other);
    boolean oneEnds = alike == one.cells.length || alike == other.cells.length;
    return done(oneEnds ? -1 - alike : alike);
  }

  public int unreadable(int t, int n, int most) {
    if (n < 1 || n > LONGEST_TRIED || most < 1 || most > MOST_TRIED) {
      return refuse(NOT_AS_TOLD);
    }
    Table table = tables.whole(t);
    if (table == null) {
      return refuse(NO_TABLE);
    }
    reader.gather(table);
    source.gatherAlphabet(reader, table.kind == JOINED);
    boolean another = source.startSpelling(n);
    for (int tried = 0; another && tried <= MOST_TRIED; tried++) {
      if (tried >= most) {
        return refuse(SPENT);
      }
      source.spell(word);
      if (word.setBy(table) == FINE && !isReadBack()) {
        bytesRead.clear();
        word.writeLetters(bytesRead);
        return done(word.size);
      }
      another = source.spellNext(n);
    }
    return done(0);
  }

  /** Whether the CELLS of the WORD at hand, by the ROWS gathered, give its LETTERS. */
  private boolean isReadBack() {
    reader.clearCells();
    for (int i = 0; i < word.count; i++) {
      reader.addCell(word.cells[i], i);
    }
    return reader.decode() && word.hasLetters(reader.bytes);
  }

  public int saved(int a, int b) {
    Table one = tables.whole(a);
    Table other = tables.whole(b);
    if (one == null || other == null) {
      return refuse(NO_TABLE);
    }
    int cells = 0;
    int why = FINE;
    for (int pass = 0; why == FINE && pass < 2; pass++) {
      source.restart();
      int comes = source.step(written, word);
      for (int n = 0; why == FINE && comes != TEXT_ENDS && n < NEVER_REACHED; n++) {
        if (comes == WORD_READY) {
          why = word.setBy(pass == 0 ? one : other);
          cells += pass == 0 ? word.count : -word.count;
        }
        if (why == FINE) {
          comes = source.step(written, word);
        }
      }
    }
    if (why != FINE) {
      refuseAt(why, word.placeOfUnknown());
      return 0;
    }
    return done(cells);
  }

  // ---- STATUS

  public int place() {
    return latestPlace;
  }

  public int finds(int k) {
    return word.findsOf(k);
  }

  public int status() {
    return latestStatus;
  }

  public int digest() {
    int d = sheet.goOver(17 * 31 + sheet.count);
    d = d * 31 + bytesRead.size;
    for (int i = 0; i < bytesRead.size; i++) {
      d = d * 31 + bytesRead.at(i);
    }
    for (int kind = 0; kind <= MUSIC; kind++) {
      d = d * 31 + word.findsOf(kind);
    }
    d = d * 31 + linesCopied;
    return d * 31 + linesClosed;
  }

  private int done(int answer) {
    latestStatus = FINE;
    latestPlace = -1;
    return answer;
  }

  private int refuse(int why) {
    latestStatus = why;
    latestPlace = -1;
    return -1;
  }

  private int refuseAt(int why, int where) {
    latestStatus = why;
    latestPlace = why == UNKNOWN || why == WRONG ? where : -1;
    return -1;
  }

  private static boolean isDigit(int b) {
    return b >= '0' && b <= '9';
  }

  private static boolean isGreat(int b) {
    return b >= 'A' && b <= 'Z';
  }

  private static boolean isSmall(int b) {
    return b >= 'a' && b <= 'z';
  }

  /** A row of numbers that grows up to a limit; what would go beyond it is left out. */
  private static final class Ints {
    final int limit;
    int[] items;
    int size = 0;

    Ints(int limit) {
      this.limit = limit;
      this.items = new int[16];
    }

    void add(int item) {
      if (size >= limit) {
        return;
      }
      if (size >= items.length) {
        items = Arrays.copyOf(items, items.length * 2);
      }
      items[size] = item;
      size++;
    }

    void addAll(Ints others) {
      for (int i = 0; i < others.size; i++) {
        add(others.items[i]);
      }
    }

    int at(int i) {
      return i >= 0 && i < size ? items[i] : 0;
    }

    void clear() {
      size = 0;
    }

    void keep(int n) {
      size = Math.max(0, Math.min(size, n));
    }

    boolean isWithin(int from, int to, int low, int high) {
      for (int i = from; i < to; i++) {
        if (at(i) < low || at(i) > high) {
          return false;
        }
      }
      return true;
    }

    int[] slice(int from, int to) {
      int[] part = new int[Math.max(0, to - from)];
      for (int i = 0; i < part.length; i++) {
        part[i] = at(from + i);
      }
      return part;
    }
  }

  /** A RULE, or an INDICATOR that is not empty (it has no LETTERS). */
  private static final class Row {
    final int role;
    final int[] letters;
    final int[] cells;
    int condition = 0;

    Row(int role, int[] letters, int[] cells) {
      this.role = role;
      this.letters = letters;
      this.cells = cells;
    }

    boolean beginsSmall() {
      return role == RULE && letters.length > 0 && isSmall(letters[0]);
    }

    /** How many CELLS both have alike from the begin. */
    int alike(Row other) {
      int most = Math.min(cells.length, other.cells.length);
      for (int i = 0; i < most; i++) {
        if (cells[i] != other.cells[i]) {
          return i;
        }
      }
      return most;
    }

    boolean isAtBeginOf(Row other) {
      return alike(other) == cells.length;
    }

    boolean endsWith(int cell) {
      return cells.length > 0 && cells[cells.length - 1] == cell;
    }

    boolean standsAt(Ints row, int at) {
      if (at < 0 || cells.length > row.size - at) {
        return false;
      }
      for (int i = 0; i < cells.length; i++) {
        if (cells[i] != row.items[at + i]) {
          return false;
        }
      }
      return true;
    }

    void writeLetters(Ints bytes, boolean firstIsGreat) {
      for (int i = 0; i < letters.length; i++) {
        bytes.add(i == 0 && firstIsGreat ? letters[i] - TO_SMALL : letters[i]);
      }
    }
  }

  /** Its BASE, or FIRST, is always older than itself: the chain of them ends. */
  private static final class Table {
    final int kind;
    final int dots;
    final Table base;
    final Table second;
    final ArrayList<Row> rules = new ArrayList<Row>();
    /** The first LETTER of each RULE: most RULES are passed by it alone. */
    final Ints initials = new Ints(MOST_RULES);
    final Row[] indicators = new Row[4];
    boolean dropped = false;

    Table(int kind, int dots, Table base, Table second) {
      this.kind = kind;
      this.dots = dots;
      this.base = base;
      this.second = second;
    }

    void append(Row rule) {
      rules.add(rule);
      initials.add(rule.letters.length > 0 ? rule.letters[0] : 0);
    }

    void removeLast() {
      if (!rules.isEmpty()) {
        rules.remove(rules.size() - 1);
        initials.keep(rules.size());
      }
    }

    boolean mayHave(int which) {
      if (which == CAPITAL) {
        return kind <= NUMERIC;
      }
      return which == NUMBER ? kind == NUMERIC : kind == JOINED;
    }

    boolean isWhole() {
      return isUpright(this) && isUpright(second);
    }

    private static boolean isUpright(Table from) {
      for (Table t = from; t != null; t = t.base) {
        if (t.dropped) {
          return false;
        }
      }
      return true;
    }

    boolean hasShort() {
      return isOverShort(this) || isOverShort(second);
    }

    private static boolean isOverShort(Table from) {
      for (Table t = from; t != null; t = t.base) {
        if (t.kind == SHORT) {
          return true;
        }
      }
      return false;
    }
  }

  /** What undo() needs to take one call back. */
  private static final class Change {
    static final int MADE = 0;
    static final int DROPPED = 1;
    static final int RULED = 2;
    static final int CONDITIONED = 3;
    static final int INDICATED = 4;

    final int what;
    final Table table;
    final Row row;
    final int number;

    Change(int what, Table table, Row row, int number) {
      this.what = what;
      this.table = table;
      this.row = row;
      this.number = number;
    }
  }

  /** All TABLES by their numbers, and the changes that can be taken back. */
  private static final class Tables {
    final ArrayList<Table> made = new ArrayList<Table>();
    final ArrayList<Change> changes = new ArrayList<Change>();

    boolean isFull() {
      return made.size() >= MOST_TABLES;
    }

    Table alive(int t) {
      if (t < 0 || t >= made.size()) {
        return null;
      }
      Table table = made.get(t);
      return table.dropped ? null : table;
    }

    /** A TABLE that is there with all that it is under or joined of. */
    Table whole(int t) {
      Table table = alive(t);
      return table != null && table.isWhole() ? table : null;
    }

    int make(Table table) {
      made.add(table);
      remember(new Change(Change.MADE, table, null, 0));
      return made.size() - 1;
    }

    void remember(Change change) {
      // only an object that is used beyond its calls comes to this
      if (changes.size() >= MOST_CALLS) {
        changes.remove(0);
      }
      changes.add(change);
    }

    boolean takeBack() {
      if (changes.isEmpty()) {
        return false;
      }
      Change change = changes.remove(changes.size() - 1);
      switch (change.what) {
        case Change.MADE:
          if (!made.isEmpty()) {
            made.remove(made.size() - 1);
          }
          break;
        case Change.DROPPED:
          change.table.dropped = false;
          break;
        case Change.RULED:
          change.table.removeLast();
          break;
        case Change.CONDITIONED:
          if (change.row != null) {
            change.row.condition = change.number;
          }
          break;
        default:
          if (change.number >= CAPITAL && change.number <= BACK) {
            change.table.indicators[change.number] = change.row;
          }
          break;
      }
      return true;
    }
  }

  /** The WORD at hand: its LETTERS, the CELLS that they are set in, and FIND. */
  private static final class Setting {
    final int[] letters = new int[MOST_TEXT];
    final int[] places = new int[MOST_TEXT];
    /** Whether a ~ stands ahead of a LETTER. */
    final boolean[] breaks = new boolean[MOST_TEXT];
    /** The first CELL of what is set from a LETTER on, its indicators too; -1 inside a RULE. */
    final int[] starts = new int[MOST_TEXT];
    int size = 0;
    boolean breakComes = false;
    final int[] cells = new int[MOST_CELLS];
    int count = 0;
    final int[] finds = new int[MUSIC + 1];
    int unknown = 0;
    int partBegin = 0;
    int partEnd = 0;

    void clear() {
      size = 0;
      breakComes = false;
    }

    void put(int letter, int place) {
      if (size >= MOST_TEXT) {
        return;
      }
      letters[size] = letter;
      places[size] = place;
      breaks[size] = breakComes;
      breakComes = false;
      size++;
    }

    void putBreak() {
      breakComes = true;
    }

    int placeOfUnknown() {
      return unknown >= 0 && unknown < size ? places[unknown] : -1;
    }

    int findsOf(int kind) {
      return kind >= 0 && kind < finds.length ? finds[kind] : 0;
    }

    boolean hasLetters(Ints bytes) {
      if (bytes.size != size) {
        return false;
      }
      for (int i = 0; i < size; i++) {
        if (bytes.at(i) != letters[i]) {
          return false;
        }
      }
      return true;
    }

    void writeLetters(Ints bytes) {
      for (int i = 0; i < size; i++) {
        bytes.add(letters[i]);
      }
    }

    /** SETTING: FINE, UNKNOWN or NOT_AS_TOLD (too many CELLS). */
    int setBy(Table table) {
      count = 0;
      boolean isJoined = table.kind == JOINED;
      boolean inSecond = false;
      int from = 0;
      for (int i = 0; i <= size; i++) {
        boolean isTurn = isJoined && i < size && letters[i] == (inSecond ? '>' : '<');
        if (i < size && !isTurn) {
          continue;
        }
        Table first = isJoined ? table.base : table;
        int why = setPart(inSecond ? table.second : first, from, i);
        if (why == FINE && isTurn) {
          why = setTurn(table.indicators[inSecond ? BACK : CHANGE], i);
        }
        if (why != FINE) {
          return why;
        }
        inSecond = !inSecond;
        from = i + 1;
      }
      // CELLS of a CHANGE or BACK at the end have no RULE behind them that would tell
      return count > MOST_CELLS ? NOT_AS_TOLD : FINE;
    }

    private int setTurn(Row sign, int at) {
      if (sign == null) {
        unknown = at;
        return UNKNOWN;
      }
      push(sign);
      return FINE;
    }

    private int setPart(Table table, int from, int to) {
      if (table == null) {
        return FINE;
      }
      partBegin = from;
      partEnd = to;
      Row capital = table.kind <= NUMERIC ? table.indicators[CAPITAL] : null;
      int at = from;
      while (at < to) {
        int b = letters[at];
        Row ahead = numberAhead(table, at);
        Row rule = find(table, at, b);
        if (rule == null && capital != null && isGreat(b)) {
          ahead = capital;
          rule = find(table, at, b + TO_SMALL);
        }
        if (rule == null) {
          unknown = at;
          return UNKNOWN;
        }
        markStart(at, rule.letters.length);
        push(ahead);
        push(rule);
        if (count > MOST_CELLS) {
          return NOT_AS_TOLD;
        }
        // at least one, so that the end is come to
        at += Math.max(1, rule.letters.length);
      }
      return FINE;
    }

    private void markStart(int at, int n) {
      for (int i = at; i < at + n && i < MOST_TEXT; i++) {
        starts[i] = i == at ? count : -1;
      }
    }

    private Row numberAhead(Table table, int at) {
      boolean isFirstDigit = isDigit(letters[at])
          && (at <= partBegin || !isDigit(letters[at - 1]));
      return table.kind == NUMERIC && isFirstDigit ? table.indicators[NUMBER] : null;
    }

    /** Counts also what has no room any more: the count tells that there are too many. */
    private void push(Row row) {
      if (row == null) {
        return;
      }
      for (int i = 0; i < row.cells.length; i++) {
        if (count < MOST_CELLS) {
          cells[count] = row.cells[i];
        }
        count++;
      }
    }

    /** FIND, down the BASES: of as long RULES the one of the upper TABLE stays. */
    private Row find(Table table, int at, int b) {
      Row best = null;
      int here = b;
      for (Table t = table; t != null; t = t.base) {
        countFind(t.kind);
        if (t.kind == PLAIN || t.kind == MUSIC) {
          return findOwn(t, at, here, best);
        }
        if (t.kind == NUMERIC && !isDigit(here)) {
          continue;
        }
        if (t.kind == SHORT) {
          countFind(CONTRACTED);
          here = isGreat(here) ? here + TO_SMALL : here;
        }
        countFind(PLAIN);
        best = findOwn(t, at, here, best);
        if (t.kind == NUMERIC) {
          return best;
        }
      }
      return best;
    }

    private void countFind(int kind) {
      if (kind >= 0 && kind < finds.length) {
        finds[kind]++;
      }
    }

    /** The first of the longest RULES that FIT, if it is longer than the best so far. */
    private Row findOwn(Table table, int at, int b, Row bestSoFar) {
      Row best = bestSoFar;
      int longest = best == null ? 0 : best.letters.length;
      int n = Math.min(table.initials.size, table.rules.size());
      int[] initials = table.initials.items;
      for (int i = 0; i < n; i++) {
        if (initials[i] != b) {
          continue;
        }
        Row rule = table.rules.get(i);
        if (rule.letters.length > longest && fits(rule, at)) {
          best = rule;
          longest = rule.letters.length;
        }
      }
      return best;
    }

    /** FITS, the first LETTER having been looked at. */
    private boolean fits(Row rule, int at) {
      int behind = at + rule.letters.length;
      if (behind > partEnd) {
        return false;
      }
      for (int i = 1; i < rule.letters.length; i++) {
        if (rule.letters[i] != letters[at + i]) {
          return false;
        }
      }
      boolean begins = at == partBegin;
      boolean ends = behind == partEnd;
      switch (rule.condition) {
        case 1:
          return begins;
        case 2:
          return !begins && !ends;
        case 3:
          return ends;
        case 4:
          return begins && ends;
        case 5:
          return !ends && isSign(letters[behind]);
        default:
          return true;
      }
    }

    private static boolean isSign(int b) {
      return b < '0' || (b > '9' && b < 'A') || (b > 'Z' && b < 'a') || b > 'z';
    }

    /** The last CELL ahead of which it may be broken, at most room CELLS on; else from. */
    int lastBreak(int kind, int from, int room) {
      int last = from;
      if (kind > SHORT || (kind == SHORT && size < 6)) {
        return last;
      }
      for (int i = 1; i < size; i++) {
        boolean isOpen = breaks[i] && starts[i] > last && starts[i] - from <= room;
        if (isOpen && (kind != NUMERIC || !(isDigit(letters[i - 1]) || isDigit(letters[i])))) {
          last = starts[i];
        }
      }
      return last;
    }
  }

  /** Where WORDS come from: TEXT, or all that can be spelt with an alphabet. */
  private static final class Source {
    int at = 0;
    boolean inLine = false;
    boolean centred = false;
    final boolean[] isSpelt = new boolean[LAST_LETTER + 1];
    final int[] alphabet = new int[LAST_LETTER + 1];
    int alphabetSize = 0;
    final int[] turns = new int[LONGEST_TRIED];
    int spelling = 0;

    void restart() {
      at = 0;
      inLine = false;
    }

    /** Goes on in TEXT to the next begin or end of a line, or WORD; tells which. */
    int step(Ints text, Setting word) {
      if (!inLine) {
        return enterLine(text);
      }
      word.clear();
      for (; at < text.size && text.at(at) != NEWLINE; at++) {
        int b = text.at(at);
        if (b == SPACE && word.size > 0) {
          return WORD_READY;
        }
        if (b == SOFT_BREAK) {
          word.putBreak();
        } else if (b != SPACE) {
          word.put(b, at);
        }
      }
      if (word.size > 0) {
        return WORD_READY;
      }
      inLine = false;
      at++;
      return LINE_ENDS;
    }

    private int enterLine(Ints text) {
      if (at >= text.size) {
        return TEXT_ENDS;
      }
      inLine = true;
      centred = text.at(at) == '^';
      at += centred ? 1 : 0;
      return LINE_BEGINS;
    }

    void gatherAlphabet(Reader rows, boolean isJoined) {
      for (int b = 0; b <= LAST_LETTER; b++) {
        isSpelt[b] = false;
      }
      markLetters(rows.first);
      markLetters(rows.second);
      if (isJoined) {
        isSpelt['<'] = true;
        isSpelt['>'] = true;
      }
      for (int b = 'a'; b <= 'z'; b++) {
        isSpelt[b - TO_SMALL] = isSpelt[b - TO_SMALL] || isSpelt[b];
      }
      alphabetSize = 0;
      for (int b = FIRST_LETTER; b <= LAST_LETTER; b++) {
        if (isSpelt[b]) {
          alphabet[alphabetSize] = b;
          alphabetSize++;
        }
      }
    }

    private void markLetters(ArrayList<Row> rows) {
      for (int i = 0; i < rows.size(); i++) {
        int[] letters = rows.get(i).letters;
        for (int k = 0; k < letters.length; k++) {
          if (letters[k] >= 0 && letters[k] <= LAST_LETTER) {
            isSpelt[letters[k]] = true;
          }
        }
      }
    }

    boolean startSpelling(int longest) {
      spelling = 0;
      return alphabetSize > 0 && lengthen(longest);
    }

    private boolean lengthen(int longest) {
      if (spelling >= longest || spelling >= LONGEST_TRIED) {
        return false;
      }
      spelling++;
      Arrays.fill(turns, 0);
      return true;
    }

    void spell(Setting word) {
      word.clear();
      for (int i = 0; i < spelling; i++) {
        word.put(alphabet[turns[i]], i);
      }
    }

    /** The next WORD by length, then as in a book; false: there is none. */
    boolean spellNext(int longest) {
      for (int i = spelling - 1; i >= 0; i--) {
        turns[i]++;
        if (turns[i] < alphabetSize) {
          return true;
        }
        turns[i] = 0;
      }
      return lengthen(longest);
    }
  }

  private static final class Line {
    final int[] cells = new int[MOST_CELLS];
    int size = 0;
    boolean lacking = false;

    void clear() {
      size = 0;
      lacking = false;
    }

    void add(int cell) {
      if (size < MOST_CELLS) {
        cells[size] = cell;
        size++;
      }
    }

    /** CELLS of a WORD, with a BLANK ahead if others stand there. */
    void addPart(Setting word, int from, int to) {
      if (size > 0) {
        add(0);
      }
      for (int i = from; i < to && i < MOST_CELLS; i++) {
        add(word.cells[i]);
      }
    }

    void resize(int n) {
      size = Math.min(size, n);
      for (int i = size; i < n; i++) {
        add(0);
      }
    }

    void indent(int n) {
      if (n <= 0 || size == 0 || n > MOST_CELLS - size) {
        return;
      }
      System.arraycopy(cells, 0, cells, n, size);
      for (int i = 0; i < n; i++) {
        cells[i] = 0;
      }
      size += n;
    }

    void become(Line other) {
      System.arraycopy(other.cells, 0, cells, 0, other.size);
      size = other.size;
      lacking = other.lacking;
    }

    boolean hasCells(int from, int n) {
      return n >= 0 && from >= 0 && from <= size && n <= size - from;
    }

    boolean endsWith(int cell) {
      return size > 0 && cells[size - 1] == cell;
    }

    int dots() {
      int sum = 0;
      for (int i = 0; i < size; i++) {
        sum += Integer.bitCount(cells[i]);
      }
      return sum;
    }
  }

  /** LINES; a Line that was made once is used again. */
  private static final class Sheet {
    final Line[] rows = new Line[MOST_LINES];
    int count = 0;
    /** The first LINE of the line of TEXT at hand. */
    int textBegin = 0;

    void clear() {
      count = 0;
    }

    Line at(int l) {
      return l >= 0 && l < count ? rows[l] : null;
    }

    /** A LINE that is there and not lacking, or null. */
    Line present(int l) {
      Line line = at(l);
      return line == null || line.lacking ? null : line;
    }

    /** The STATUS where none is present. */
    int whyNone(int l) {
      return at(l) == null ? BEYOND : LACKING;
    }

    /** Begins a LINE; false: there is no room. */
    boolean begin() {
      if (count >= MOST_LINES) {
        return false;
      }
      if (rows[count] == null) {
        rows[count] = new Line();
      }
      rows[count].clear();
      count++;
      return true;
    }

    /** A WORD comes into the last LINE and those behind it; false: there is no room. */
    boolean take(Setting word, int kind, int width, int hyphen) {
      int from = 0;
      // each turn but the last begins a LINE
      for (int turn = 0; turn <= MOST_LINES; turn++) {
        Line line = at(count - 1);
        if (line == null) {
          return false;
        }
        int room = width - (line.size > 0 ? line.size + 1 : 0);
        if (word.count - from <= room) {
          line.addPart(word, from, word.count);
          return true;
        }
        int stop = word.lastBreak(kind, from, room - 1);
        if (stop > from) {
          line.addPart(word, from, stop);
          line.add(hyphen);
          from = stop;
        } else if (line.size == 0) {
          line.addPart(word, from, word.count);
          return true;
        }
        if (!begin()) {
          return false;
        }
      }
      return false;
    }

    boolean beginText() {
      textBegin = count;
      return begin();
    }

    void endText(boolean isCentred, int width) {
      for (int l = textBegin; isCentred && l < count; l++) {
        Line line = at(l);
        if (line != null) {
          line.indent((width - line.size) / 2);
        }
      }
    }

    int goOver(int before) {
      int d = before;
      for (int l = 0; l < count; l++) {
        Line line = present(l);
        d = d * 31 + (line == null ? -1 : line.size);
        for (int i = 0; line != null && i < line.size; i++) {
          d = d * 31 + line.cells[i];
        }
      }
      return d;
    }
  }

  /** The ROWS of a TABLE, and READING a row of CELLS by them. */
  private static final class Reader {
    /** ROWS of the TABLE, or of a FIRST part. */
    final ArrayList<Row> first = new ArrayList<Row>();
    /** ROWS of a SECOND part; none but in a Joined. */
    final ArrayList<Row> second = new ArrayList<Row>();
    /** The first CELLS of these ROWS: most of them are passed by it alone. */
    final Ints firstBegins = new Ints(MOST_TABLES * MOST_RULES + 3);
    final Ints secondBegins = new Ints(MOST_TABLES * MOST_RULES + 3);
    final Ints cells = new Ints(MOST_LINES * (MOST_CELLS + 1));
    final Ints places = new Ints(MOST_LINES * (MOST_CELLS + 1));
    /** One more than READ may have, so that too many are seen. */
    final Ints bytes = new Ints(MOST_READ + 1);
    int wrong = 0;

    void gather(Table table) {
      first.clear();
      second.clear();
      if (table.kind == JOINED) {
        gatherPart(first, table.base);
        addIndicator(first, table.indicators[CHANGE]);
        gatherPart(second, table.second);
        addIndicator(second, table.indicators[BACK]);
      } else {
        gatherPart(first, table);
      }
      markBegins(first, firstBegins);
      markBegins(second, secondBegins);
    }

    private static void markBegins(ArrayList<Row> rows, Ints begins) {
      begins.clear();
      int n = rows.size();
      for (int i = 0; i < n; i++) {
        Row row = rows.get(i);
        begins.add(row.cells.length > 0 ? row.cells[0] : 0);
      }
    }

    private static void gatherPart(ArrayList<Row> rows, Table table) {
      if (table == null) {
        return;
      }
      for (Table t = table; t != null; t = t.base) {
        for (int i = 0; i < t.rules.size(); i++) {
          rows.add(t.rules.get(i));
        }
      }
      addIndicator(rows, table.indicators[CAPITAL]);
      addIndicator(rows, table.indicators[NUMBER]);
    }

    private static void addIndicator(ArrayList<Row> rows, Row indicator) {
      if (indicator != null) {
        rows.add(indicator);
      }
    }

    ArrayList<Row> rowsOf(boolean inSecond) {
      return inSecond ? second : first;
    }

    static boolean isReadable(ArrayList<Row> rows, int hyphen) {
      int n = rows.size();
      for (int i = 0; i < n; i++) {
        Row row = rows.get(i);
        if (row.endsWith(hyphen)) {
          return false;
        }
        for (int k = 0; k < n; k++) {
          if (k != i && row.isAtBeginOf(rows.get(k))) {
            return false;
          }
        }
      }
      return true;
    }

    void clearCells() {
      cells.clear();
      places.clear();
    }

    void addCell(int cell, int place) {
      cells.add(cell);
      places.add(place);
    }

    /** A LINE comes behind the others: broken by a HYPHEN it goes on, else a BLANK follows. */
    void chain(Line line, int l, int hyphen, boolean isLast) {
      boolean goesOn = line.endsWith(hyphen);
      int size = goesOn ? line.size - 1 : line.size;
      for (int i = 0; i < size; i++) {
        addCell(line.cells[i], l * 1000 + i);
      }
      if (!goesOn && !isLast) {
        addCell(0, -1);
      }
    }

    /** Reads the cells into the bytes; false: WRONG. */
    boolean decode() {
      bytes.clear();
      boolean isFirst = true;
      int at = 0;
      while (at < cells.size) {
        if (cells.at(at) == 0) {
          at++;
          continue;
        }
        if (!isFirst) {
          bytes.add(SPACE);
        }
        isFirst = false;
        int behind = decodeWord(at);
        if (behind <= at) {
          return false;
        }
        at = behind;
      }
      return true;
    }

    /** Where the WORD ends that begins here; -1: WRONG. */
    private int decodeWord(int from) {
      boolean inSecond = false;
      boolean greatComes = false;
      int at = from;
      while (at < cells.size && cells.at(at) != 0) {
        Row row = longestAt(inSecond, at);
        if (row == null || (greatComes && !row.beginsSmall())) {
          wrong = at;
          return -1;
        }
        if (row.role == CHANGE || row.role == BACK) {
          inSecond = row.role == CHANGE;
          bytes.add(inSecond ? '<' : '>');
        }
        row.writeLetters(bytes, greatComes);
        greatComes = row.role == CAPITAL;
        at += Math.max(1, row.cells.length);
      }
      wrong = at;
      return greatComes ? -1 : at;
    }

    private Row longestAt(boolean inSecond, int at) {
      ArrayList<Row> rows = rowsOf(inSecond);
      Ints begins = inSecond ? secondBegins : firstBegins;
      int cell = cells.at(at);
      Row best = null;
      int longest = 0;
      int n = Math.min(begins.size, rows.size());
      for (int i = 0; i < n; i++) {
        if (begins.items[i] != cell) {
          continue;
        }
        Row row = rows.get(i);
        if (row.cells.length > longest && row.standsAt(cells, at)) {
          best = row;
          longest = row.cells.length;
        }
      }
      return best;
    }

    /** At a WORD's end nothing stands: then it is the CELL behind the last one. */
    int placeOfWrong() {
      return cells.at(wrong) != 0 ? places.at(wrong) : places.at(wrong - 1) + 1;
    }
  }

  /** READINGS of a LINE with FAILED dots. */
  private static final class Readings {
    /** A node is a place in the LINE times 4, and these. */
    static final int IN_SECOND = 1;
    static final int GREAT_COMES = 2;

    final boolean[] canEnd = new boolean[(MOST_READING_CELLS + 1) * 4];
    final int[] nodes = new int[MOST_READING_CELLS + 1];
    final int[] choices = new int[MOST_READING_CELLS + 1];
    final int[] ends = new int[MOST_READINGS];
    final Ints bytes = new Ints(MOST_READINGS * MOST_READING_CELLS * MOST_LETTERS);
    int count = 0;
    boolean leftSome = false;
    /** Whose ROWS, as they were gathered, are tried. */
    final Reader rows;
    /** The CELLS of the LINE. */
    final int[] cells = new int[MOST_READING_CELLS];
    int size = 0;
    int seen = 0;

    Readings(Reader rows) {
      this.rows = rows;
    }

    int byteOf(int k, int i) {
      if (k < 0 || k >= count) {
        return -1;
      }
      int from = k == 0 ? 0 : ends[k - 1];
      return i < 0 || i >= ends[k] - from ? -1 : bytes.at(from + i);
    }

    /** Seen: the dots that have not FAILED. */
    void collect(Line line, int seen, int most) {
      this.size = Math.min(line.size, MOST_READING_CELLS);
      System.arraycopy(line.cells, 0, cells, 0, size);
      this.seen = seen;
      count = 0;
      leftSome = false;
      bytes.clear();
      markEnds();
      if (canEnd[0]) {
        walk(Math.min(most, MOST_READINGS));
      }
    }

    /** Without knowing which ways come to an end, the walk could try too many that do not. */
    private void markEnds() {
      for (int node = size * 4 + 3; node >= 0; node--) {
        canEnd[node] = node >= size * 4
            ? (node & GREAT_COMES) == 0
            : nextChoice(node, 0) >= 0;
      }
    }

    private void walk(int most) {
      int depth = 0;
      nodes[0] = 0;
      choices[0] = -1;
      for (int turn = 0; depth >= 0 && turn < NEVER_REACHED; turn++) {
        boolean isEnd = nodes[depth] >= size * 4;
        if (isEnd && count >= most) {
          leftSome = true;
          return;
        }
        int choice = isEnd ? -1 : nextChoice(nodes[depth], choices[depth] + 1);
        if (isEnd) {
          write(depth);
        }
        if (choice < 0) {
          depth--;
        } else {
          choices[depth] = choice;
          nodes[depth + 1] = nodeBehind(nodes[depth], choice);
          choices[depth + 1] = -1;
          depth++;
        }
      }
    }

    /** The first choice from one on that comes to an end: 0 the BLANK, k ROW k - 1; or -1. */
    private int nextChoice(int node, int from) {
      int rowsThere = rows.rowsOf((node & IN_SECOND) != 0).size();
      for (int choice = from; choice <= rowsThere; choice++) {
        int behind = nodeBehind(node, choice);
        if (behind >= 0 && canEnd[behind]) {
          return choice;
        }
      }
      return -1;
    }

    /** Where a choice leads to; -1: it can't stand there. */
    private int nodeBehind(int node, int choice) {
      int at = node / 4;
      boolean greatComes = (node & GREAT_COMES) != 0;
      if (choice <= 0) {
        return greatComes || !looksLike(0, at) ? -1 : (at + 1) * 4;
      }
      Row row = rows.rowsOf((node & IN_SECOND) != 0).get(choice - 1);
      if (!looksLikeRow(row, at) || (greatComes && !row.beginsSmall())) {
        return -1;
      }
      int flags = node & IN_SECOND;
      switch (row.role) {
        case CAPITAL:
          flags |= GREAT_COMES;
          break;
        case CHANGE:
          flags = IN_SECOND;
          break;
        case BACK:
          flags = 0;
          break;
        default:
          break;
      }
      return (at + row.cells.length) * 4 + flags;
    }

    private boolean looksLike(int cell, int at) {
      return at < size && ((cell ^ cells[at]) & seen) == 0;
    }

    private boolean looksLikeRow(Row row, int at) {
      for (int i = 0; i < row.cells.length; i++) {
        if (!looksLike(row.cells[i], at + i)) {
          return false;
        }
      }
      return true;
    }

    private void write(int depth) {
      boolean greatComes = false;
      for (int d = 0; d < depth; d++) {
        if (choices[d] == 0) {
          bytes.add(SPACE);
          continue;
        }
        Row row = rows.rowsOf((nodes[d] & IN_SECOND) != 0).get(choices[d] - 1);
        if (row.role == CHANGE || row.role == BACK) {
          bytes.add(row.role == CHANGE ? '<' : '>');
        }
        row.writeLetters(bytes, greatComes);
        greatComes = row.role == CAPITAL;
      }
      ends[count] = bytes.size;
      count++;
    }
  }
}
