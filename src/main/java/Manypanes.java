/** Panes over rows of numbers; the document's promises are told in ../shared/DOC.md. */
public final class Manypanes {
  private static final int NONE = -1;
  private static final int REFUSED = -9;

  private static final int KIND_FULL = 1;
  private static final int KIND_EMPTY = 2;
  private static final int KIND_NO_MARK = 3;
  private static final int KIND_READER = 4;
  private static final int KIND_BEYOND = 5;
  private static final int KINDS = 5;

  private static final int PANES = 6;
  private static final int PANES_OVER_LONG_ROW = 4;
  private static final int LONG_LENGTH = 16;
  private static final int FIRST_LENGTH = 8;
  private static final int FRESH_LENGTH_MOST = 12;

  private static final int FARTHEST = 20;
  private static final int MANY_MOST = 20;
  private static final int FILL_MOST = 1000000;
  private static final int OF_PANE_LAST = 9;
  private static final int WOULD_LAST = 3;
  private static final int HOUSE_LAST = 8;

  private final Row longRow;
  private final Pane[] panes;
  // Twins and parts that isSound() tries out; made once, so that no call of it makes any.
  private final Pane spare;
  // One line for every text, so that digest() makes none.
  private final Line line;
  private final int[] refusals;
  private int acts;
  private int knocks;

  public Manypanes() {
    longRow = new Row(LONG_LENGTH);
    panes = new Pane[PANES];
    for (int i = 0; i < panes.length; i++) {
      panes[i] = new Pane(i < PANES_OVER_LONG_ROW ? longRow : new Row(FIRST_LENGTH));
    }
    spare = new Pane(longRow);
    line = new Line();
    refusals = new int[KINDS + 1];
    acts = 0;
    knocks = 0;
  }

  // ---- made

  public int wrap(int pane, int from, int many)
      throws IndexOutOfBoundsException, IllegalArgumentException {
    Pane p = paneOf(pane);
    needWithin(from, 0, LONG_LENGTH);
    needWithin(many, 0, LONG_LENGTH - from);
    p.showAll(longRow);
    p.position = from;
    p.limit = from + many;
    return done(p.limit);
  }

  public int fresh(int pane, int length)
      throws IndexOutOfBoundsException, IllegalArgumentException {
    Pane p = paneOf(pane);
    needWithin(length, 0, FRESH_LENGTH_MOST);
    p.showAll(new Row(length));
    return done(p.limit);
  }

  public int twin(int pane, int other) throws IndexOutOfBoundsException {
    Pane p = paneOf(pane);
    Pane o = paneOf(other);
    p.becomeTwin(o);
    return done(p.left());
  }

  public int rest(int pane, int other) throws IndexOutOfBoundsException {
    Pane p = paneOf(pane);
    Pane o = paneOf(other);
    p.becomePart(o, o.position, o.left());
    return done(p.limit);
  }

  public int part(int pane, int other, int index, int many) throws IndexOutOfBoundsException {
    Pane p = paneOf(pane);
    Pane o = paneOf(other);
    if (!isWithin(index, 0, o.limit) || !isWithin(many, 0, o.limit - index)) {
      return refuse(KIND_BEYOND);
    }
    p.becomePart(o, index, many);
    return done(p.limit);
  }

  public int reader(int pane, int other) throws IndexOutOfBoundsException {
    Pane p = paneOf(pane);
    Pane o = paneOf(other);
    p.becomeTwin(o);
    p.isReader = true;
    return done(p.left());
  }

  public int exchange(int pane, int other) throws IndexOutOfBoundsException {
    Pane p = paneOf(pane);
    Pane o = paneOf(other);
    setPane(pane, o);
    setPane(other, p);
    return done(o.position);
  }

  // ---- moved

  public int go(int pane, int place) throws IndexOutOfBoundsException {
    Pane p = paneOf(pane);
    int before = p.position;
    if (!isWithin(place, 0, p.limit)) {
      return refuse(KIND_BEYOND);
    }
    p.moveTo(place);
    return done(before);
  }

  public int move(int pane, int by) throws IndexOutOfBoundsException, IllegalArgumentException {
    Pane p = paneOf(pane);
    needWithin(by, -FARTHEST, FARTHEST);
    int place = p.position + by;
    if (!isWithin(place, 0, p.limit)) {
      return refuse(KIND_BEYOND);
    }
    p.moveTo(place);
    return done(p.position);
  }

  public int end(int pane, int place) throws IndexOutOfBoundsException {
    Pane p = paneOf(pane);
    int before = p.limit;
    if (!isWithin(place, 0, p.capacity)) {
      return refuse(KIND_BEYOND);
    }
    p.endAt(place);
    return done(before);
  }

  public int stretch(int pane, int by) throws IndexOutOfBoundsException, IllegalArgumentException {
    Pane p = paneOf(pane);
    needWithin(by, -FARTHEST, FARTHEST);
    int place = p.limit + by;
    if (!isWithin(place, 0, p.capacity)) {
      return refuse(KIND_BEYOND);
    }
    p.endAt(place);
    return done(p.limit);
  }

  public int mark(int pane) throws IndexOutOfBoundsException {
    Pane p = paneOf(pane);
    p.marked = p.position;
    return done(p.marked);
  }

  public int back(int pane) throws IndexOutOfBoundsException {
    Pane p = paneOf(pane);
    if (!p.hasMark()) {
      return refuse(KIND_NO_MARK);
    }
    int far = p.position - p.marked;
    p.moveTo(p.marked);
    return done(far);
  }

  public int clear(int pane) throws IndexOutOfBoundsException {
    Pane p = paneOf(pane);
    p.beginAgain(p.capacity);
    return done(p.left());
  }

  public int flip(int pane) throws IndexOutOfBoundsException {
    Pane p = paneOf(pane);
    p.beginAgain(p.position);
    return done(p.left());
  }

  public int rewind(int pane) throws IndexOutOfBoundsException {
    Pane p = paneOf(pane);
    p.beginAgain(p.limit);
    return done(p.left());
  }

  // ---- written

  public int put(int pane, int value) throws IndexOutOfBoundsException, IllegalArgumentException {
    Pane p = paneOf(pane);
    needValue(value);
    if (!tryPut(p, value)) {
      return REFUSED;
    }
    return done(p.position);
  }

  public int putAt(int pane, int index, int value)
      throws IndexOutOfBoundsException, IllegalArgumentException {
    Pane p = paneOf(pane);
    needValue(value);
    if (!p.hasIndex(index)) {
      return refuse(KIND_BEYOND);
    }
    if (p.isReader) {
      return refuse(KIND_READER);
    }
    return done(p.replace(index, value));
  }

  public int bring(int pane, int index, int other, int from) throws IndexOutOfBoundsException {
    Pane p = paneOf(pane);
    Pane o = paneOf(other);
    if (!o.hasIndex(from) || !p.hasIndex(index)) {
      return refuse(KIND_BEYOND);
    }
    if (p.isReader) {
      return refuse(KIND_READER);
    }
    return done(p.replace(index, o.valueAt(from)));
  }

  public int fill(int pane, int first, int step, int many)
      throws IndexOutOfBoundsException, IllegalArgumentException {
    Pane p = paneOf(pane);
    needWithin(first, 0, FILL_MOST);
    needWithin(step, 0, FILL_MOST);
    needWithin(many, 0, MANY_MOST);
    int count = 0;
    while (count < many && tryPut(p, first + count * step)) {
      count++;
    }
    return done(count);
  }

  public int pack(int pane) throws IndexOutOfBoundsException {
    Pane p = paneOf(pane);
    if (p.isReader) {
      return refuse(KIND_READER);
    }
    int many = p.left();
    for (int i = 0; i < many; i++) {
      p.replace(i, p.valueAt(p.position + i));
    }
    p.beginAgain(p.capacity);
    p.position = many;
    return done(p.position);
  }

  public int pour(int pane, int other, int many)
      throws IndexOutOfBoundsException, IllegalArgumentException {
    Pane p = paneOf(pane);
    Pane o = paneOf(other);
    needWithin(many, 0, MANY_MOST);
    int count = 0;
    while (count < many && p.left() > 0 && pourOne(p, o)) {
      count++;
    }
    return done(count);
  }

  public int lay(int place, int value) throws IndexOutOfBoundsException, IllegalArgumentException {
    if (!longRow.hasPlace(place)) {
      throw new IndexOutOfBoundsException("no such place of the long row");
    }
    needValue(value);
    return done(longRow.exchangeAt(place, value));
  }

  public int reach(int pane, int index, int value)
      throws IndexOutOfBoundsException, IllegalArgumentException {
    Pane p = paneOf(pane);
    needValue(value);
    if (p.isReader) {
      return refuse(KIND_READER);
    }
    if (!p.shows(index)) {
      return refuse(KIND_BEYOND);
    }
    return done(p.replace(index, value));
  }

  // ---- taken

  public int get(int pane) throws IndexOutOfBoundsException {
    Pane p = paneOf(pane);
    if (p.left() <= 0) {
      return refuse(KIND_EMPTY);
    }
    return done(p.takeNext());
  }

  public int drain(int pane, int many) throws IndexOutOfBoundsException, IllegalArgumentException {
    Pane p = paneOf(pane);
    needWithin(many, 0, MANY_MOST);
    int count = 0;
    while (count < many && p.left() > 0) {
      p.takeNext();
      count++;
    }
    if (count < many) {
      refuse(KIND_EMPTY);
    }
    return done(count);
  }

  public int pop(int pane) throws IndexOutOfBoundsException {
    Pane p = paneOf(pane);
    if (p.position <= 0) {
      return refuse(KIND_BEYOND);
    }
    p.moveTo(p.position - 1);
    return done(p.valueAt(p.position));
  }

  // ---- asked

  public int ofPane(int pane, int what)
      throws IndexOutOfBoundsException, IllegalArgumentException {
    Pane p = paneOf(pane);
    needWithin(what, 0, OF_PANE_LAST);
    return p.numberOf(what);
  }

  public int at(int pane, int index) throws IndexOutOfBoundsException {
    Pane p = paneOf(pane);
    return p.hasIndex(index) ? p.valueAt(index) : REFUSED;
  }

  public int peek(int pane) throws IndexOutOfBoundsException {
    Pane p = paneOf(pane);
    return p.left() > 0 ? p.valueAt(p.position) : REFUSED;
  }

  public String total(int pane) throws IndexOutOfBoundsException {
    Pane p = paneOf(pane);
    line.beginTotal(p);
    return line.written();
  }

  public String text(int pane) throws IndexOutOfBoundsException {
    Pane p = paneOf(pane);
    line.beginValues(p, p.position, p.limit);
    return line.written();
  }

  public String whole(int pane) throws IndexOutOfBoundsException {
    Pane p = paneOf(pane);
    line.beginWhole(p);
    return line.written();
  }

  public String row() {
    beginLongRow();
    return line.written();
  }

  public int isKin(int pane, int other) throws IndexOutOfBoundsException {
    return kinship(paneOf(pane), paneOf(other));
  }

  public int sees(int pane, int index, int other) throws IndexOutOfBoundsException {
    return indexSeen(paneOf(pane), index, paneOf(other));
  }

  public int would(int pane, int what) throws IndexOutOfBoundsException, IllegalArgumentException {
    Pane p = paneOf(pane);
    needWithin(what, 0, WOULD_LAST);
    switch (what) {
      case 0:
        return p.capacity;
      case 1:
        return p.position;
      case 2:
        return p.limit;
      default:
        return p.hasMark() ? p.limit - p.marked : REFUSED;
    }
  }

  // ---- the whole

  public int house(int what) throws IllegalArgumentException {
    needWithin(what, 0, HOUSE_LAST);
    return houseNumber(what);
  }

  public int knock() {
    knocks++;
    return knocks;
  }

  public boolean isSound() {
    for (int i = 0; i < panes.length; i++) {
      if (!panes[i].isInOrder() || !hasTrueTwins(panes[i]) || !hasTrueRemainder(panes[i])) {
        return false;
      }
      for (int j = i + 1; j < panes.length; j++) {
        if (!agree(panes[i], panes[j])) {
          return false;
        }
      }
    }
    return true;
  }

  public long digest() {
    long d = 8017;
    for (int what = 0; what <= HOUSE_LAST; what++) {
      d = mix(d, houseNumber(what));
    }
    for (int i = 0; i < panes.length; i++) {
      d = mixPane(d, panes[i]);
    }
    for (int i = 0; i < panes.length; i++) {
      Pane next = panes[i + 1 < panes.length ? i + 1 : 0];
      d = mix(d, kinship(panes[i], next));
      d = mix(d, indexSeen(panes[i], 0, next));
    }
    beginLongRow();
    d = mixLine(d);
    return mix(d, isSound() ? 1 : 0);
  }

  // ---- what the calls share

  private Pane paneOf(int pane) {
    if (pane < 0 || pane >= panes.length) {
      throw new IndexOutOfBoundsException("no such pane");
    }
    return panes[pane];
  }

  private void setPane(int pane, Pane p) {
    if (pane >= 0 && pane < panes.length) {
      panes[pane] = p;
    }
  }

  private static boolean isWithin(int number, int least, int most) {
    return number >= least && number <= most;
  }

  private static void needWithin(int number, int least, int most) {
    if (!isWithin(number, least, most)) {
      throw new IllegalArgumentException("a number is out of its bounds");
    }
  }

  private static void needValue(int value) {
    if (value < 0) {
      throw new IllegalArgumentException("a value is below 0");
    }
  }

  private int done(int answer) {
    acts++;
    return answer;
  }

  private int refuse(int kind) {
    if (kind >= 0 && kind < refusals.length) {
      refusals[kind]++;
    }
    return REFUSED;
  }

  /** Counts what is REFUSED, but no ACT: fill() and pour() are one ACT for many of these. */
  private boolean tryPut(Pane p, int value) {
    if (p.isReader) {
      refuse(KIND_READER);
      return false;
    }
    if (p.left() <= 0) {
      refuse(KIND_FULL);
      return false;
    }
    p.putNext(value);
    return true;
  }

  /** Takes ahead of putting, since a PANE poured into itself has one less LEFT by then. */
  private boolean pourOne(Pane from, Pane into) {
    int value = from.takeNext();
    if (tryPut(into, value)) {
      return true;
    }
    from.moveTo(from.position - 1);
    return false;
  }

  private static int kinship(Pane a, Pane b) {
    if (a.isReader || b.isReader) {
      return REFUSED;
    }
    return a.over == b.over ? 1 : 0;
  }

  private static int indexSeen(Pane a, int index, Pane b) {
    if (a.isReader || b.isReader) {
      return REFUSED;
    }
    if (a.over != b.over || !a.shows(index)) {
      return NONE;
    }
    int there = a.start + index - b.start;
    return b.shows(there) ? there : NONE;
  }

  private int houseNumber(int what) {
    switch (what) {
      case 0:
        return acts;
      case 6:
        return knocks;
      case 7:
        return howManyReaders();
      case 8:
        return howManyMarks();
      default:
        return what >= 0 && what < refusals.length ? refusals[what] : 0;
    }
  }

  private int howManyReaders() {
    int count = 0;
    for (int i = 0; i < panes.length; i++) {
      if (panes[i].isReader) {
        count++;
      }
    }
    return count;
  }

  private int howManyMarks() {
    int count = 0;
    for (int i = 0; i < panes.length; i++) {
      if (panes[i].hasMark()) {
        count++;
      }
    }
    return count;
  }

  // ---- what isSound() looks at

  private boolean hasTrueTwins(Pane p) {
    spare.becomeTwin(p);
    boolean twinIsTrue = spare.tellsAs(p);
    spare.isReader = true;
    return twinIsTrue && spare.tellsAs(p);
  }

  private boolean hasTrueRemainder(Pane p) {
    spare.becomePart(p, p.position, p.left());
    if (spare.limit != p.left()) {
      return false;
    }
    for (int i = 0; i < spare.limit; i++) {
      if (spare.valueAt(i) != p.valueAt(p.position + i)) {
        return false;
      }
    }
    return p.isReader || spare.start == p.start + p.position;
  }

  private static boolean agree(Pane a, Pane b) {
    if (kinship(a, b) != 1) {
      return true;
    }
    for (int i = 0; i < a.capacity; i++) {
      int there = indexSeen(a, i, b);
      if (there != NONE && a.valueAt(i) != b.valueAt(there)) {
        return false;
      }
    }
    return true;
  }

  // ---- what digest() adds up

  private static long mix(long d, int v) {
    return d * 31 + v;
  }

  private long mixPane(long before, Pane p) {
    long d = before;
    for (int what = 0; what <= OF_PANE_LAST; what++) {
      d = mix(d, p.numberOf(what));
    }
    line.beginWhole(p);
    d = mixLine(d);
    line.beginTotal(p);
    return mixLine(d);
  }

  private long mixLine(long before) {
    long d = before;
    for (int i = 0; i < line.signs.length(); i++) {
      d = mix(d, line.signs.charAt(i));
    }
    return d;
  }

  private void beginLongRow() {
    spare.showAll(longRow);
    line.beginValues(spare, 0, spare.limit);
  }

  /** An object of its own, so that two ROWS with the same VALUES are told from each other. */
  private static final class Row {
    private final int[] values;

    Row(int length) {
      values = new int[length > 0 ? length : 0];
    }

    int length() {
      return values.length;
    }

    boolean hasPlace(int place) {
      return place >= 0 && place < values.length;
    }

    int valueAt(int place) {
      return hasPlace(place) ? values[place] : 0;
    }

    int exchangeAt(int place, int value) {
      if (!hasPlace(place)) {
        return 0;
      }
      int before = values[place];
      values[place] = value;
      return before;
    }
  }

  private static final class Pane {
    private Row over;
    private int start;
    private int capacity;
    private int position;
    private int limit;
    private int marked;
    private boolean isReader;

    Pane(Row under) {
      over = under;
      start = 0;
      capacity = under.length();
      position = 0;
      limit = capacity;
      marked = NONE;
      isReader = false;
    }

    void showAll(Row under) {
      over = under;
      start = 0;
      capacity = under.length();
      isReader = false;
      beginAgain(capacity);
    }

    void becomeTwin(Pane other) {
      over = other.over;
      start = other.start;
      capacity = other.capacity;
      position = other.position;
      limit = other.limit;
      marked = other.marked;
      isReader = other.isReader;
    }

    /** The other one may be this one: nothing of it is read after it has been written. */
    void becomePart(Pane other, int index, int many) {
      over = other.over;
      start = other.start + index;
      capacity = many;
      isReader = other.isReader;
      beginAgain(many);
    }

    void beginAgain(int newLimit) {
      position = 0;
      limit = newLimit;
      marked = NONE;
    }

    void moveTo(int place) {
      position = place;
      if (marked > place) {
        marked = NONE;
      }
    }

    void endAt(int place) {
      limit = place;
      if (position > place) {
        position = place;
      }
      if (marked > place) {
        marked = NONE;
      }
    }

    int left() {
      return limit - position;
    }

    boolean hasMark() {
      return marked != NONE;
    }

    /** Narrower than shows(): most calls let no INDEX at or behind LIMIT. */
    boolean hasIndex(int index) {
      return index >= 0 && index < limit;
    }

    boolean shows(int index) {
      return index >= 0 && index < capacity;
    }

    int valueAt(int index) {
      return over.valueAt(start + index);
    }

    int replace(int index, int value) {
      return over.exchangeAt(start + index, value);
    }

    int takeNext() {
      int value = valueAt(position);
      position++;
      return value;
    }

    void putNext(int value) {
      replace(position, value);
      position++;
    }

    int numberOf(int what) {
      switch (what) {
        case 0:
          return position;
        case 1:
          return limit;
        case 2:
          return capacity;
        case 3:
          return left();
        case 4:
          return marked;
        case 5:
          return isReader ? REFUSED : start;
        case 6:
          return left() > 0 ? 1 : 0;
        case 7:
          return isReader ? 1 : 0;
        case 8:
          return isReader ? 0 : 1;
        default:
          return capacity - limit;
      }
    }

    boolean isInOrder() {
      if (hasMark() && (marked < 0 || marked > position)) {
        return false;
      }
      return position >= 0 && position <= limit && limit <= capacity
          && left() == limit - position;
    }

    boolean tellsAs(Pane other) {
      if (position != other.position || limit != other.limit || marked != other.marked) {
        return false;
      }
      for (int i = 0; i < capacity; i++) {
        if (valueAt(i) != other.valueAt(i)) {
          return false;
        }
      }
      return true;
    }
  }

  private static final class Line {
    // The VALUES of 16 places together stay below 40000000000.
    private static final long HIGHEST_UNIT = 10000000000L;

    private final StringBuilder signs = new StringBuilder();

    String written() {
      return signs.toString();
    }

    void beginTotal(Pane p) {
      signs.setLength(0);
      long sum = 0;
      for (int i = p.position; i < p.limit; i++) {
        sum = sum + p.valueAt(i);
      }
      addNumber(sum);
    }

    void beginValues(Pane p, int from, int to) {
      signs.setLength(0);
      for (int i = from; i < to; i++) {
        if (i > from) {
          signs.append(' ');
        }
        addNumber(p.valueAt(i));
      }
    }

    void beginWhole(Pane p) {
      signs.setLength(0);
      for (int i = 0; i < p.capacity; i++) {
        addSigns(p, i);
        addNumber(p.valueAt(i));
        signs.append(' ');
      }
      addSigns(p, p.capacity);
    }

    private void addSigns(Pane p, int index) {
      if (p.marked == index) {
        signs.append('|');
      }
      if (p.position == index) {
        signs.append('>');
      }
      if (p.limit == index) {
        signs.append('<');
      }
    }

    /** By hand, since the library's way makes a text for each number. */
    private void addNumber(long number) {
      for (long unit = HIGHEST_UNIT; unit > 0; unit = unit / 10) {
        if (number >= unit || unit == 1) {
          signs.append((char) ('0' + (int) (number / unit % 10)));
        }
      }
    }
  }
}
