import java.util.Arrays;

/** A finder of types: expressions are built node by node, and their types are found. */
public final class TypeScribe {
  private static final int NONE = -1;

  private static final int MOST_NODES = 40;
  private static final int MOST_TOLD = 40;
  private static final int NAMES = 8;
  private static final int LABELS = 4;
  private static final int LARGEST_FOUND = 16;
  private static final int LARGEST_ASSUMED = 12;
  private static final int LARGEST_TYPE = 150;

  // What a NODE is.
  private static final int N_NUMBER = 0;
  private static final int N_TRUTH = 1;
  private static final int N_NAME = 2;
  private static final int N_FUN = 3;
  private static final int N_CALL = 4;
  private static final int N_LET = 5;
  private static final int N_REC = 6;
  private static final int N_CHOOSE = 7;
  private static final int N_PAIR = 8;
  private static final int N_FIRST = 9;
  private static final int N_SECOND = 10;
  private static final int N_EMPTY = 11;
  private static final int N_LINK = 12;
  private static final int N_UNLINK = 13;
  private static final int N_BARE = 14;
  private static final int N_WITH = 15;
  private static final int N_AT = 16;
  private static final int N_LESS = 17;
  private static final int N_PLUS = 18;
  private static final int N_SAME = 19;
  private static final int N_WRITTEN = 20;

  // What a TYPE or a ROW is.
  private static final int NUMBER = 0;
  private static final int TRUTH = 1;
  private static final int FUNCTION = 2;
  private static final int PAIR = 3;
  private static final int LIST = 4;
  private static final int RECORD = 5;
  private static final int END = 7;
  private static final int FIELD = 10;
  private static final int TYPE_VARIABLE = 20;
  private static final int ROW_VARIABLE = 30;
  private static final int VARIABLES_OF_A_SORT = 6;

  // What a VARIABLE is in the store; as one is told it, it is VARIABLE and more.
  private static final int VARIABLE = 100;
  private static final int BOUND = 101;
  private static final int GENERAL = 102;
  private static final int FIXED = 103;

  // Why finding FAILS.
  private static final int UNLIKE = 1;
  private static final int ENDLESS = 2;
  private static final int UNKNOWN = 3;
  private static final int TOO_LARGE = 4;

  // Bounds of loops, of recursion and of what is kept, far above what any run needs.
  private static final int MOST_STEPS = 1073741824;
  private static final int MOST_CELLS = 262144;
  private static final int MOST_ITEMS = 1048576;
  private static final int DEEPEST = 20;

  // A TYPE may have more codes than a long counts: from here on they are not counted further.
  private static final long MOST_CODES = 1L << 60;
  private static final int LAST_PLACE = 2147483647;

  private static final long DIGEST_START = 58045L;

  private final Nodes built = new Nodes();
  private final Told told = new Told();
  private final Pile[] assumed = new Pile[NAMES];
  // what find() found stays in its own finder; all other calls ask the second one
  private final Finder finder = new Finder(built, told, assumed);
  private final Finder asker = new Finder(built, told, assumed);
  private final Result latest = new Result(finder);
  private final Pile oneRow = new Pile(LARGEST_TYPE);
  private final Pile otherRow = new Pile(LARGEST_TYPE);

  public TypeScribe() {
    for (int i = 0; i < NAMES; i++) {
      assumed[i] = new Pile(LARGEST_ASSUMED);
    }
  }

  // ---- expressions

  public int number() throws IllegalStateException {
    needRoom();
    return built.add(N_NUMBER, NONE, NONE, NONE, NONE, NONE);
  }

  public int truth() throws IllegalStateException {
    needRoom();
    return built.add(N_TRUTH, NONE, NONE, NONE, NONE, NONE);
  }

  public int name(int name) throws IllegalArgumentException, IllegalStateException {
    needName(name);
    needRoom();
    return built.add(N_NAME, name, NONE, NONE, NONE, NONE);
  }

  public int fun(int name, int body)
      throws IndexOutOfBoundsException, IllegalArgumentException, IllegalStateException {
    needFree(body);
    needName(name);
    needRoom();
    return built.add(N_FUN, name, NONE, body, NONE, NONE);
  }

  public int let(boolean isRec, int name, int value, int body)
      throws IndexOutOfBoundsException, IllegalArgumentException, IllegalStateException {
    needFree(value);
    needFree(body);
    needDifferent(value, body);
    needName(name);
    needRoom();
    return built.add(isRec ? N_REC : N_LET, name, NONE, value, body, NONE);
  }

  public int choose(int condition, int one, int other)
      throws IndexOutOfBoundsException, IllegalArgumentException, IllegalStateException {
    needFree(condition);
    needFree(one);
    needFree(other);
    needDifferent(condition, one);
    needDifferent(condition, other);
    needDifferent(one, other);
    needRoom();
    return built.add(N_CHOOSE, NONE, NONE, condition, one, other);
  }

  public int two(int code, int one, int other)
      throws IndexOutOfBoundsException, IllegalArgumentException, IllegalStateException {
    needFree(one);
    needFree(other);
    if (!isOfTwo(code)) {
      throw new IllegalArgumentException("no NODE of two PARTS has this code");
    }
    needDifferent(one, other);
    needRoom();
    return built.add(code, NONE, NONE, one, other, NONE);
  }

  public int half(boolean isSecond, int pair)
      throws IndexOutOfBoundsException, IllegalStateException {
    needFree(pair);
    needRoom();
    return built.add(isSecond ? N_SECOND : N_FIRST, NONE, NONE, pair, NONE, NONE);
  }

  public int empty() throws IllegalStateException {
    needRoom();
    return built.add(N_EMPTY, NONE, NONE, NONE, NONE, NONE);
  }

  public int unlink(int list, int ifEmpty, int head, int tail, int otherwise)
      throws IndexOutOfBoundsException, IllegalArgumentException, IllegalStateException {
    needFree(list);
    needFree(ifEmpty);
    needFree(otherwise);
    needDifferent(list, ifEmpty);
    needDifferent(list, otherwise);
    needDifferent(ifEmpty, otherwise);
    needName(head);
    needName(tail);
    needRoom();
    return built.add(N_UNLINK, head, tail, list, ifEmpty, otherwise);
  }

  public int bare() throws IllegalStateException {
    needRoom();
    return built.add(N_BARE, NONE, NONE, NONE, NONE, NONE);
  }

  public int with(int label, int value, int record)
      throws IndexOutOfBoundsException, IllegalArgumentException, IllegalStateException {
    needFree(value);
    needFree(record);
    needLabel(label);
    needDifferent(value, record);
    needRoom();
    return built.add(N_WITH, label, NONE, value, record, NONE);
  }

  public int at(boolean isLess, int label, int record)
      throws IndexOutOfBoundsException, IllegalArgumentException, IllegalStateException {
    needFree(record);
    needLabel(label);
    needRoom();
    return built.add(isLess ? N_LESS : N_AT, label, NONE, record, NONE, NONE);
  }

  public int written(int of, int type)
      throws IndexOutOfBoundsException, IllegalArgumentException, IllegalStateException {
    needFree(of);
    needUnused(type);
    needNoRow(type);
    needRoom();
    told.use(type);
    return built.add(N_WRITTEN, type, NONE, of, NONE, NONE);
  }

  public int clear() {
    int before = built.count;
    built.wipe();
    told.wipe();
    return before;
  }

  // ---- types

  public int type(int code, int one, int other)
      throws IllegalArgumentException, IndexOutOfBoundsException, IllegalStateException {
    if (!isToldCode(code)) {
      throw new IllegalArgumentException("no TYPE or ROW has this code");
    }
    int beneath = beneath(code);
    if (beneath >= 1) {
      needUnused(one);
    }
    if (beneath == 2) {
      needUnused(other);
    }
    if (!told.canTake(code, one, other)) {
      throw new IllegalStateException("this cannot be told");
    }
    return told.add(code, one, other);
  }

  public int assume(int name, int type)
      throws IllegalArgumentException, IndexOutOfBoundsException, IllegalStateException {
    needName(name);
    needUnused(type);
    if (told.isRow(type) || told.codes(type) > LARGEST_ASSUMED) {
      throw new IllegalStateException("this cannot be ASSUMED");
    }
    told.use(type);
    Pile row = assumed[name];
    told.write(type, row);
    return variablesIn(row);
  }

  public boolean forget(int name) throws IllegalArgumentException {
    needName(name);
    boolean wasAssumed = assumed[name].count > 0;
    assumed[name].wipe();
    return wasAssumed;
  }

  // ---- what expressions are

  public int nodes() {
    return built.count;
  }

  public int types() {
    return told.count;
  }

  public int codeOf(int node) throws IndexOutOfBoundsException {
    needNode(node);
    return built.code(node);
  }

  public int size(int node) throws IndexOutOfBoundsException {
    needNode(node);
    return built.extent(node);
  }

  public int above(int node) throws IndexOutOfBoundsException {
    needNode(node);
    return built.owner(node);
  }

  public int loose(int node) throws IndexOutOfBoundsException {
    needNode(node);
    return built.looseNames(node);
  }

  // ---- finding types

  public int find(int node) throws IndexOutOfBoundsException, IllegalStateException {
    needNode(node);
    needFindable(node);
    int why = finder.seek(node, NONE, NONE);
    latest.startAnew(why, node);
    return why;
  }

  public int result() {
    return latest.why;
  }

  public int where() {
    return latest.failedAt();
  }

  public int typeAt(int node, int place) {
    return latest.codeAt(node, place);
  }

  public int typeSize(int node) {
    return latest.extent(node);
  }

  public int general(int node) {
    return latest.generalsOf(node);
  }

  public int unlike(boolean isRight, int place) {
    return latest.unlikeAt(isRight, place);
  }

  public int variables() {
    return latest.variablesOfAll();
  }

  // ---- comparing, and what would be

  public int compare(int one, int other) throws IndexOutOfBoundsException, IllegalStateException {
    needNode(one);
    needNode(other);
    needFindable(one);
    needFindable(other);
    if (asker.seek(one, NONE, NONE) != 0) {
      return NONE;
    }
    asker.tellType(one, oneRow);
    if (asker.seek(other, NONE, NONE) != 0) {
      return NONE;
    }
    asker.tellType(other, otherRow);
    if (oneRow.isLike(otherRow)) {
      return 0;
    }
    if (asker.canBecome(oneRow, otherRow, FIXED)) {
      return 1;
    }
    if (asker.canBecome(otherRow, oneRow, FIXED)) {
      return 2;
    }
    return asker.canBecome(oneRow, otherRow, VARIABLE) ? 3 : 4;
  }

  public boolean canBe(int node, int type)
      throws IndexOutOfBoundsException, IllegalArgumentException, IllegalStateException {
    needNode(node);
    needType(type);
    needNoRow(type);
    needFindable(node);
    if (asker.seek(node, NONE, NONE) != 0) {
      return false;
    }
    asker.tellType(node, oneRow);
    told.write(type, otherRow);
    return asker.canBecome(oneRow, otherRow, FIXED);
  }

  public int wouldBe(int node, int part, int type)
      throws IndexOutOfBoundsException, IllegalArgumentException, IllegalStateException {
    needNode(node);
    needNode(part);
    needType(type);
    if (!built.isIn(part, node)) {
      throw new IllegalArgumentException("this part is not in the NODE");
    }
    needNoRow(type);
    needFindable(node);
    told.write(type, asker.asked);
    return asker.seek(node, NONE, part);
  }

  public int culprit(int node) throws IndexOutOfBoundsException, IllegalStateException {
    needNode(node);
    needFindable(node);
    if (asker.seek(node, NONE, NONE) == 0) {
      return NONE;
    }
    for (int extent = 1; extent <= LARGEST_FOUND; extent++) {
      for (int part = 0; part <= node; part++) {
        boolean isAsked = built.extent(part) == extent && built.isIn(part, node);
        if (isAsked && asker.seek(node, part, NONE) == 0) {
          return part;
        }
      }
    }
    return node;
  }

  public double meanType() {
    return latest.mean();
  }

  public long digest() {
    long d = DIGEST_START;
    d = d * 31 + nodes();
    d = d * 31 + types();
    for (int node = 0; node < built.count; node++) {
      d = d * 31 + built.code(node);
      d = d * 31 + built.extent(node);
      d = d * 31 + built.owner(node);
      d = d * 31 + built.looseNames(node);
    }
    d = d * 31 + result();
    d = d * 31 + where();
    d = d * 31 + variables();
    return latest.digestFrom(d);
  }

  // ---- what calls ask of their arguments

  private void needRoom() {
    if (built.count >= MOST_NODES) {
      throw new IllegalStateException("there are 40 NODES");
    }
  }

  private void needNode(int node) {
    if (!built.has(node)) {
      throw new IndexOutOfBoundsException("there is no such NODE");
    }
  }

  private void needFree(int node) {
    if (!built.has(node) || built.owner(node) != NONE) {
      throw new IndexOutOfBoundsException("there is no such NODE, or it is a PART already");
    }
  }

  private void needDifferent(int one, int other) {
    if (one == other) {
      throw new IllegalArgumentException("two PARTS are the same");
    }
  }

  private void needName(int name) {
    if (name < 0 || name >= NAMES) {
      throw new IllegalArgumentException("a name is 0 to 7");
    }
  }

  private void needLabel(int label) {
    if (label < 0 || label >= LABELS) {
      throw new IllegalArgumentException("a label is 0 to 3");
    }
  }

  private void needType(int type) {
    if (!told.has(type)) {
      throw new IndexOutOfBoundsException("there is no such TYPE");
    }
  }

  private void needUnused(int type) {
    if (!told.has(type) || told.isUsed(type)) {
      throw new IndexOutOfBoundsException("there is no such TYPE, or it is used already");
    }
  }

  private void needNoRow(int type) {
    if (told.isRow(type)) {
      throw new IllegalArgumentException("this is a ROW");
    }
  }

  private void needFindable(int node) {
    if (built.extent(node) > LARGEST_FOUND) {
      throw new IllegalStateException("the SIZE is above 16");
    }
  }

  // ---- helpers of the calls

  private static boolean isOfTwo(int code) {
    return code == N_CALL || code == N_PAIR || code == N_LINK || code == N_PLUS || code == N_SAME;
  }

  // ---- what codes of TYPES are

  private static boolean isField(int code) {
    return code >= FIELD && code < FIELD + LABELS;
  }

  private static boolean isRowVariable(int code) {
    return code >= ROW_VARIABLE && code < ROW_VARIABLE + VARIABLES_OF_A_SORT;
  }

  private static boolean isTypeVariable(int code) {
    return code >= TYPE_VARIABLE && code < TYPE_VARIABLE + VARIABLES_OF_A_SORT;
  }

  private static boolean isVariable(int code) {
    return code >= TYPE_VARIABLE;
  }

  private static boolean isToldCode(int code) {
    boolean isPlain = (code >= NUMBER && code <= RECORD) || code == END;
    return isPlain || isField(code) || isTypeVariable(code) || isRowVariable(code);
  }

  private static boolean isRowCode(int code) {
    return code == END || isField(code) || isRowVariable(code);
  }

  /** How many TYPES and ROWS stand beneath a code. */
  private static int beneath(int code) {
    boolean isOfField = code >= FIELD && code < FIELD + LABELS;
    if (code == FUNCTION || code == PAIR || isOfField) {
      return 2;
    }
    return code == LIST || code == RECORD ? 1 : 0;
  }

  /** How many VARIABLES are in a row of codes. */
  private static int variablesIn(Pile row) {
    int different = 0;
    for (int i = 0; i < row.count; i++) {
      if (isVariable(row.get(i)) && row.indexOf(row.get(i)) == i) {
        different++;
      }
    }
    return different;
  }

  /** A row of whole numbers that grows. */
  private static final class Pile {
    private int[] items;
    private int count;

    Pile(int room) {
      items = new int[room < 1 ? 1 : room];
    }

    void wipe() {
      count = 0;
    }

    boolean has(int place) {
      return place >= 0 && place < count;
    }

    int get(int place) {
      return has(place) ? items[place] : 0;
    }

    void put(int item) {
      if (count >= MOST_ITEMS) {
        return;
      }
      if (count >= items.length) {
        items = Arrays.copyOf(items, items.length * 2);
      }
      items[count] = item;
      count++;
    }

    int take() {
      if (count < 1) {
        return 0;
      }
      count--;
      return items[count];
    }

    int indexOf(int item) {
      for (int i = 0; i < count; i++) {
        if (items[i] == item) {
          return i;
        }
      }
      return NONE;
    }

    boolean isLike(Pile other) {
      if (count != other.count) {
        return false;
      }
      for (int i = 0; i < count; i++) {
        if (items[i] != other.get(i)) {
          return false;
        }
      }
      return true;
    }
  }

  /** The expressions as they were built. */
  private static final class Nodes {
    private static final int PARTS = 3;

    private final int[] codes = new int[MOST_NODES];
    // a name, a label, or the TYPE that is WRITTEN
    private final int[] details = new int[MOST_NODES];
    private final int[] tails = new int[MOST_NODES];
    private final int[] parts = new int[MOST_NODES * PARTS];
    private final int[] extents = new int[MOST_NODES];
    private final int[] owners = new int[MOST_NODES];
    private final int[] looses = new int[MOST_NODES];
    private int count;

    void wipe() {
      count = 0;
    }

    boolean has(int node) {
      return node >= 0 && node < count;
    }

    int code(int node) {
      return has(node) ? codes[node] : NONE;
    }

    int detail(int node) {
      return has(node) ? details[node] : NONE;
    }

    int tail(int node) {
      return has(node) ? tails[node] : NONE;
    }

    int part(int node, int which) {
      return has(node) && which >= 0 && which < PARTS ? parts[node * PARTS + which] : NONE;
    }

    int extent(int node) {
      return has(node) ? extents[node] : 0;
    }

    int owner(int node) {
      return has(node) ? owners[node] : NONE;
    }

    int looseNames(int node) {
      return has(node) ? looses[node] : 0;
    }

    int add(int code, int detail, int tail, int one, int two, int three) {
      if (count >= MOST_NODES) {
        return NONE;
      }
      int node = count;
      codes[node] = code;
      details[node] = detail;
      tails[node] = tail;
      extents[node] = 1 + extent(one) + extent(two) + extent(three);
      owners[node] = NONE;
      looses[node] = looseOf(node, looseNames(one), looseNames(two), looseNames(three));
      takePart(node, 0, one);
      takePart(node, 1, two);
      takePart(node, 2, three);
      count++;
      return node;
    }

    private void takePart(int node, int which, int part) {
      parts[node * PARTS + which] = part;
      if (has(part)) {
        owners[part] = node;
      }
    }

    private int looseOf(int node, int one, int two, int three) {
      int name = bit(details[node]);
      switch (codes[node]) {
        case N_NAME:
          return name;
        case N_FUN:
          return one & ~name;
        case N_LET:
          return one | (two & ~name);
        case N_REC:
          return (one | two) & ~name;
        case N_UNLINK:
          return one | two | (three & ~(name | bit(tails[node])));
        default:
          return one | two | three;
      }
    }

    private static int bit(int name) {
      return name >= 0 && name < NAMES ? 1 << name : 0;
    }

    boolean isIn(int part, int node) {
      int at = part;
      for (int i = 0; i < MOST_NODES && at != NONE; i++) {
        if (at == node) {
          return true;
        }
        at = owner(at);
      }
      return false;
    }
  }

  /** The TYPES and ROWS that are told by calls. */
  private static final class Told {
    private final int[] codes = new int[MOST_TOLD];
    private final int[] ones = new int[MOST_TOLD];
    private final int[] others = new int[MOST_TOLD];
    private final int[] extents = new int[MOST_TOLD];
    private final boolean[] areUsed = new boolean[MOST_TOLD];
    private final Pile ahead = new Pile(MOST_TOLD);
    private int count;

    void wipe() {
      count = 0;
    }

    boolean has(int type) {
      return type >= 0 && type < count;
    }

    boolean isUsed(int type) {
      return has(type) && areUsed[type];
    }

    void use(int type) {
      if (has(type)) {
        areUsed[type] = true;
      }
    }

    boolean isRow(int type) {
      return has(type) && isRowCode(codes[type]);
    }

    int codes(int type) {
      return has(type) ? extents[type] : 0;
    }

    boolean canTake(int code, int one, int other) {
      if (count >= MOST_TOLD) {
        return false;
      }
      int beneath = beneath(code);
      if (beneath >= 1 && isRow(one) != (code == RECORD)) {
        return false;
      }
      return beneath < 2 || (one != other && isRow(other) == isField(code));
    }

    int add(int code, int one, int other) {
      if (count >= MOST_TOLD) {
        return NONE;
      }
      int beneath = beneath(code);
      int type = count;
      codes[type] = code;
      ones[type] = beneath >= 1 ? one : NONE;
      others[type] = beneath == 2 ? other : NONE;
      extents[type] = 1 + codes(ones[type]) + codes(others[type]);
      areUsed[type] = false;
      use(ones[type]);
      use(others[type]);
      count++;
      return type;
    }

    /** Writes the codes of a TYPE, in order, in place of what was in the row. */
    void write(int type, Pile row) {
      row.wipe();
      ahead.wipe();
      ahead.put(type);
      for (int i = 0; i < MOST_TOLD && ahead.count > 0; i++) {
        int at = ahead.take();
        if (has(at)) {
          row.put(codes[at]);
          if (others[at] != NONE) {
            ahead.put(others[at]);
          }
          if (ones[at] != NONE) {
            ahead.put(ones[at]);
          }
        }
      }
    }
  }

  /**
   * The TYPES and ROWS while finding goes on: cells that refer to one another. A VARIABLE that was
   * found out is BOUND, and refers to what it is. All walks keep their own pile, as types may be
   * far deeper than calls may be.
   */
  private static final class Store {
    private static final int FIRST_CELLS = 256;
    private static final int MOST_TOLD_CODES = 256;

    private int[] kinds = new int[FIRST_CELLS];
    // what is beneath cell c, at 2c and 2c + 1
    private int[] kids = new int[2 * FIRST_CELLS];
    // which walk came by a cell last, and what it left there
    private int[] marks = new int[FIRST_CELLS];
    private int[] tags = new int[FIRST_CELLS];
    // cells that were MADE ONE lead to the same cell by these
    private int[] likes = new int[FIRST_CELLS];
    private int count;
    private int walk;
    private boolean isOverfull;
    private final Pile ahead = new Pile(64);
    private final int[] cellsOfCodes = new int[MOST_TOLD_CODES];

    void wipe() {
      count = 0;
      isOverfull = false;
    }

    int kind(int cell) {
      return cell >= 0 && cell < count ? kinds[cell] : END;
    }

    int one(int cell) {
      return cell >= 0 && cell < count ? kids[2 * cell] : NONE;
    }

    int other(int cell) {
      return cell >= 0 && cell < count ? kids[2 * cell + 1] : NONE;
    }

    int cell(int kind, int one, int other) {
      if (count >= MOST_CELLS) {
        isOverfull = true;
        return NONE;
      }
      if (count >= kinds.length) {
        int room = 2 * kinds.length;
        kinds = Arrays.copyOf(kinds, room);
        kids = Arrays.copyOf(kids, 2 * room);
        marks = Arrays.copyOf(marks, room);
        tags = Arrays.copyOf(tags, room);
        likes = Arrays.copyOf(likes, room);
      }
      int cell = count;
      kinds[cell] = kind;
      kids[2 * cell] = one;
      kids[2 * cell + 1] = other;
      marks[cell] = 0;
      likes[cell] = cell;
      count++;
      return cell;
    }

    int leaf(int kind) {
      return cell(kind, NONE, NONE);
    }

    void bind(int variable, int other) {
      if (variable >= 0 && variable < count) {
        kinds[variable] = BOUND;
        kids[2 * variable] = other;
      }
    }

    void unbind(int variable) {
      if (variable >= 0 && variable < count) {
        kinds[variable] = VARIABLE;
      }
    }

    /** What a cell is, when all that was found out is looked at. */
    int known(int cell) {
      int at = cell;
      for (int i = 0; i < count && at >= 0 && at < count && kinds[at] == BOUND; i++) {
        at = kids[2 * at];
      }
      return at;
    }

    /** Tells that two cells are the same TYPE from now on, as they were MADE ONE. */
    void setAlike(int one, int other) {
      int from = firstAlike(one);
      int to = firstAlike(other);
      if (from >= 0 && from < count && to >= 0 && to < count) {
        likes[from] = to;
      }
    }

    boolean areAlike(int one, int other) {
      return firstAlike(one) == firstAlike(other);
    }

    private int firstAlike(int cell) {
      int at = cell;
      for (int i = 0; i < count && at >= 0 && at < count && likes[at] != at; i++) {
        // each step makes the way shorter for those that come later
        int next = likes[at];
        if (next >= 0 && next < count) {
          likes[at] = likes[next];
        }
        at = next;
      }
      return at;
    }

    private boolean isMarked(int cell) {
      return cell >= 0 && cell < count && marks[cell] == walk;
    }

    private void mark(int cell, int tag) {
      if (cell >= 0 && cell < count) {
        marks[cell] = walk;
        tags[cell] = tag;
      }
    }

    private int tag(int cell) {
      return cell >= 0 && cell < count ? tags[cell] : NONE;
    }

    private void putBeneath(int cell) {
      int beneath = beneath(kind(cell));
      if (beneath == 2) {
        ahead.put(other(cell));
      }
      if (beneath >= 1) {
        ahead.put(one(cell));
      }
    }

    boolean isIn(int variable, int type) {
      walk++;
      ahead.wipe();
      ahead.put(type);
      for (int i = 0; i < MOST_STEPS && ahead.count > 0; i++) {
        int at = known(ahead.take());
        if (at == variable) {
          return true;
        }
        if (!isMarked(at)) {
          mark(at, 0);
          putBeneath(at);
        }
      }
      return false;
    }

    boolean isTooLarge(int type) {
      int codes = 0;
      ahead.wipe();
      ahead.put(type);
      for (int i = 0; i <= LARGEST_TYPE && ahead.count > 0; i++) {
        codes++;
        putBeneath(known(ahead.take()));
      }
      return codes > LARGEST_TYPE || isOverfull;
    }

    /** Makes the VARIABLES of a TYPE GENERAL that are not in what is around; tells how many. */
    int makeGeneral(int type, int[] around) {
      walk++;
      for (int i = 0; i < around.length; i++) {
        if (around[i] != NONE) {
          markBeneath(around[i], false);
        }
      }
      return markBeneath(type, true);
    }

    private int markBeneath(int type, boolean turnsGeneral) {
      int turned = 0;
      ahead.wipe();
      ahead.put(type);
      for (int i = 0; i < MOST_STEPS && ahead.count > 0; i++) {
        int at = known(ahead.take());
        if (!isMarked(at)) {
          mark(at, 0);
          putBeneath(at);
          if (turnsGeneral && kind(at) == VARIABLE) {
            kinds[at] = GENERAL;
            turned++;
          }
        }
      }
      return turned;
    }

    /** A copy of a TYPE, with new VARIABLES for those that are GENERAL. */
    int freshCopy(int type) {
      walk++;
      int root = NONE;
      ahead.wipe();
      ahead.put(type);
      ahead.put(NONE);
      for (int i = 0; i < MOST_STEPS && ahead.count > 0; i++) {
        int place = ahead.take();
        int at = known(ahead.take());
        if (!isMarked(at)) {
          mark(at, copyOf(at));
        }
        if (place == NONE) {
          root = tag(at);
        } else {
          setKid(place, tag(at));
        }
      }
      return root;
    }

    private int copyOf(int cell) {
      int kind = kind(cell);
      if (kind == GENERAL) {
        return cell(VARIABLE, NONE, NONE);
      }
      int beneath = beneath(kind);
      if (beneath == 0) {
        return cell;
      }
      int copy = cell(kind, NONE, NONE);
      for (int i = 0; i < beneath; i++) {
        ahead.put(i == 0 ? one(cell) : other(cell));
        ahead.put(2 * copy + i);
      }
      return copy;
    }

    private void setKid(int place, int cell) {
      if (place >= 0 && place < 2 * count) {
        kids[place] = cell;
      }
    }

    /** Makes cells of a row of codes, with new VARIABLES of a kind for those in it. */
    int load(Pile row, int variableKind) {
      for (int i = 0; i < row.count; i++) {
        setCellOfCode(row.get(i), NONE);
      }
      int root = NONE;
      ahead.wipe();
      ahead.put(NONE);
      for (int i = 0; i < row.count && ahead.count > 0; i++) {
        int cell = cellFor(row.get(i), variableKind);
        int place = ahead.take();
        if (place == NONE) {
          root = cell;
        } else {
          setKid(place, cell);
        }
        for (int j = beneath(row.get(i)) - 1; j >= 0; j--) {
          ahead.put(2 * cell + j);
        }
      }
      return root;
    }

    private int cellFor(int code, int variableKind) {
      if (!isVariable(code)) {
        return cell(code, NONE, NONE);
      }
      if (code >= MOST_TOLD_CODES) {
        return NONE;
      }
      if (cellsOfCodes[code] == NONE) {
        cellsOfCodes[code] = cell(variableKind, NONE, NONE);
      }
      return cellsOfCodes[code];
    }

    private void setCellOfCode(int code, int cell) {
      if (code >= 0 && code < MOST_TOLD_CODES) {
        cellsOfCodes[code] = cell;
      }
    }

    /** The FIELD of a kind in a ROW behind so many others of it; if there is none, the ROW's end. */
    int fieldOf(int row, int kind, int before) {
      int passed = 0;
      int at = known(row);
      for (int i = 0; i < count && isField(kind(at)); i++) {
        if (kind(at) == kind) {
          if (passed == before) {
            return at;
          }
          passed++;
        }
        at = known(other(at));
      }
      return at;
    }

    int endOfRow(int row) {
      return fieldOf(row, END, 0);
    }

    /** A ROW without the first FIELDS of each label, as many as are gone; the end is shared. */
    int rest(int row, int[] gone) {
      int more = 0;
      for (int label = 0; label < LABELS; label++) {
        more += gone[label];
      }
      int first = NONE;
      int last = NONE;
      int at = known(row);
      int most = count;
      for (int i = 0; i < most && more > 0 && isField(kind(at)); i++) {
        int label = kind(at) - FIELD;
        if (gone[label] > 0) {
          gone[label]--;
          more--;
        } else {
          int copy = cell(kind(at), one(at), NONE);
          setKid(2 * last + 1, copy);
          first = last == NONE ? copy : first;
          last = copy;
        }
        at = known(other(at));
      }
      setKid(2 * last + 1, at);
      return last == NONE ? at : first;
    }
  }

  /**
   * Makes TYPES one. What waits to be done lies in a pile: two TYPES or two ROWS to be MADE ONE,
   * and two TYPES that are alike as soon as all that lies above them is done. TYPES that are alike
   * are not looked at again: a few cells may stand for more codes than could ever be walked over.
   * They must not be taken for alike any earlier, or an ENDLESS in them would not be seen.
   */
  private static final class Maker {
    private static final int TYPES = 0;
    private static final int ROWS = 1;
    private static final int DONE = 2;

    private final Store store = new Store();
    private final Pile work = new Pile(64);
    private final Pile bound = new Pile(64);
    // how many FIELDS of each label the right ROW is without
    private final int[] gone = new int[LABELS];
    private int left;
    private int right;
    private int why;

    void wipe() {
      store.wipe();
      why = 0;
      left = NONE;
      right = NONE;
    }

    /** Whether a left and a right one could be made one; if not, all VARIABLES are as they were. */
    boolean isMadeOne(int leftType, int rightType) {
      left = leftType;
      right = rightType;
      why = 0;
      work.wipe();
      bound.wipe();
      put(TYPES, leftType, rightType);
      for (int i = 0; i < MOST_STEPS && why == 0 && work.count > 0; i++) {
        int task = work.take();
        int other = store.known(work.take());
        int one = store.known(work.take());
        if (task == TYPES) {
          makeTypesOne(one, other);
        } else if (task == ROWS) {
          makeRowsOne(one, other);
        } else {
          store.setAlike(one, other);
        }
      }
      for (int i = 0; i < bound.count && why != 0; i++) {
        store.unbind(bound.get(i));
      }
      return why == 0;
    }

    private void put(int task, int one, int other) {
      work.put(one);
      work.put(other);
      work.put(task);
    }

    /** The right ROW is meant without the FIELDS that are gone. */
    private void putRows(int one, int other) {
      for (int label = 0; label < LABELS; label++) {
        work.put(gone[label]);
      }
      work.put(one);
      work.put(other);
      work.put(ROWS);
    }

    private void bind(int variable, int meaning) {
      store.bind(variable, meaning);
      bound.put(variable);
    }

    private void settle(int variable, int meaning) {
      if (store.isIn(variable, meaning)) {
        why = ENDLESS;
      } else {
        bind(variable, meaning);
      }
    }

    private void makeTypesOne(int one, int other) {
      int kind = store.kind(one);
      if (one == other) {
        return;
      }
      if (kind == VARIABLE) {
        settle(one, other);
      } else if (store.kind(other) == VARIABLE) {
        settle(other, one);
      } else if (kind != store.kind(other) || kind > VARIABLE) {
        why = UNLIKE;
      } else if (beneath(kind) > 0 && !store.areAlike(one, other)) {
        put(DONE, one, other);
        putBeneath(kind, one, other);
      }
    }

    private void putBeneath(int kind, int one, int other) {
      if (kind == RECORD) {
        Arrays.fill(gone, 0);
        putRows(store.one(one), store.one(other));
        return;
      }
      if (beneath(kind) == 2) {
        put(TYPES, store.other(one), store.other(other));
      }
      put(TYPES, store.one(one), store.one(other));
    }

    private void makeRowsOne(int one, int wholeRight) {
      for (int label = LABELS - 1; label >= 0; label--) {
        gone[label] = work.take();
      }
      int other = withoutGoneAhead(wholeRight);
      boolean isWhole = gone[0] == 0 && gone[1] == 0 && gone[2] == 0 && gone[3] == 0;
      int kind = store.kind(one);
      if (one == other && isWhole) {
        return;
      }
      if (kind == VARIABLE) {
        settle(one, isWhole ? other : store.rest(other, gone));
      } else if (store.kind(other) == VARIABLE) {
        settle(other, one);
      } else if (isField(kind)) {
        makeFieldsOne(kind, one, other);
      } else if (kind != store.kind(other) || kind > VARIABLE) {
        why = UNLIKE;
      }
    }

    /** Where a right ROW begins, if what is gone of it stands first; less is gone then. */
    private int withoutGoneAhead(int row) {
      int at = store.known(row);
      for (int i = 0; i < MOST_CELLS && isField(store.kind(at)); i++) {
        int label = store.kind(at) - FIELD;
        if (gone[label] == 0) {
          return at;
        }
        gone[label]--;
        at = store.known(store.other(at));
      }
      return at;
    }

    /** The left ROW begins with a FIELD of this kind; the right one is no VARIABLE alone. */
    private void makeFieldsOne(int kind, int one, int other) {
      int label = kind - FIELD;
      int match = store.fieldOf(other, kind, gone[label]);
      if (store.kind(match) != kind) {
        if (store.kind(match) != VARIABLE) {
          why = UNLIKE;
          return;
        }
        if (store.endOfRow(one) == match) {
          why = ENDLESS;
          return;
        }
        int end = match;
        int inside = store.leaf(VARIABLE);
        match = store.cell(kind, inside, store.leaf(VARIABLE));
        bind(end, match);
      }
      gone[label]++;
      putRows(store.other(one), other);
      put(TYPES, store.one(one), store.one(match));
    }
  }

  /**
   * Tells TYPES of a store code by code. A TYPE is not written out for this, as it may have very
   * many codes: for each cell it is known how many there are and what they do to a checksum.
   */
  private static final class Teller {
    private final Store store;
    private int[] stamps = new int[1];
    private int[] numbers = new int[1];
    private long[] extents = new long[1];
    // codes turn a checksum d into d * factor + sum
    private long[] factors = new long[1];
    private long[] sums = new long[1];
    private int stamp;
    private int variables;
    private final Pile ahead = new Pile(64);
    private final Pile pieces = new Pile(64);
    private long extent;
    private long factor;
    private long sum;

    Teller(Store told) {
      store = told;
    }

    /** From here on, VARIABLES are told as they come in the one TYPE, and then in the other. */
    void look(int one, int other) {
      if (stamps.length < store.count) {
        int room = 2 * store.count;
        stamps = new int[room];
        numbers = new int[room];
        extents = new long[room];
        factors = new long[room];
        sums = new long[room];
      }
      stamp++;
      variables = 0;
      ahead.wipe();
      ahead.put(other);
      ahead.put(one);
      for (int i = 0; i < MOST_STEPS && ahead.count > 0; i++) {
        int next = ahead.take();
        if (next < NONE) {
          finish(NONE - 1 - next);
        } else if (has(next) && !isSeen(store.known(next))) {
          open(store.known(next));
        }
      }
    }

    private boolean has(int cell) {
      return cell >= 0 && cell < store.count && cell < stamps.length;
    }

    private boolean isSeen(int cell) {
      return cell >= 0 && cell < stamps.length && stamps[cell] == stamp;
    }

    /** All that is beneath a cell comes ahead of its own end, in the order in which it is told. */
    private void open(int cell) {
      if (store.kind(cell) >= VARIABLE && has(cell)) {
        numbers[cell] = variables;
        variables++;
      }
      ahead.put(NONE - 1 - cell);
      takeApart(cell);
      for (int i = pieces.count - 1; i >= 0; i--) {
        if (pieces.get(i) >= 0) {
          ahead.put(pieces.get(i));
        }
      }
    }

    private void finish(int cell) {
      takeApart(cell);
      startAdding();
      for (int i = 0; i < pieces.count; i++) {
        add(pieces.get(i));
      }
      if (has(cell)) {
        stamps[cell] = stamp;
        extents[cell] = extent;
        factors[cell] = factor;
        sums[cell] = sum;
      }
    }

    /** The pieces of a cell in order: a code alone as NONE - 1 - its cell, or all of a cell. */
    private void takeApart(int cell) {
      pieces.wipe();
      pieces.put(NONE - 1 - cell);
      int beneath = beneath(store.kind(cell));
      if (store.kind(cell) == RECORD) {
        takeRowApart(store.known(store.one(cell)));
      } else if (beneath >= 1) {
        pieces.put(store.known(store.one(cell)));
      }
      if (beneath == 2) {
        pieces.put(store.known(store.other(cell)));
      }
    }

    private void takeRowApart(int row) {
      int at = row;
      for (int kind = FIELD; kind < FIELD + LABELS; kind++) {
        at = row;
        for (int i = 0; i < MOST_CELLS && isField(store.kind(at)); i++) {
          if (store.kind(at) == kind) {
            pieces.put(NONE - 1 - at);
            pieces.put(store.known(store.one(at)));
          }
          at = store.known(store.other(at));
        }
      }
      pieces.put(at);
    }

    private void startAdding() {
      extent = 0;
      factor = 1;
      sum = 0;
    }

    private void add(int piece) {
      if (piece < 0) {
        extent = extent >= MOST_CODES ? MOST_CODES : extent + 1;
        factor = factor * 31;
        sum = sum * 31 + codeOfCell(NONE - 1 - piece);
      } else if (isSeen(piece)) {
        extent = extent >= MOST_CODES - extents[piece] ? MOST_CODES : extent + extents[piece];
        sum = sum * factors[piece] + sums[piece];
        factor = factor * factors[piece];
      }
    }

    private int codeOfCell(int cell) {
      int kind = store.kind(cell);
      return kind >= VARIABLE && has(cell) ? VARIABLE + numbers[cell] : kind;
    }

    /** How many codes a TYPE has that was looked at. */
    private long codes(int type) {
      int cell = store.known(type);
      return isSeen(cell) ? extents[cell] : 0;
    }

    /** How many codes of a TYPE are told, as far as an int counts. */
    int extentOf(int type) {
      long codes = codes(type);
      return codes > LAST_PLACE ? LAST_PLACE : (int) codes;
    }

    int codeAt(int type, int place) {
      int cell = place >= 0 && place < codes(type) ? cellAt(type, place) : NONE;
      return cell == NONE ? NONE : codeOfCell(cell);
    }

    /** What a checksum becomes by all codes of a TYPE that have a place. */
    long digestFrom(long start, int type) {
      startAdding();
      if (codes(type) > LAST_PLACE) {
        cellAt(type, LAST_PLACE + 1L);
      } else if (codes(type) > 0) {
        add(store.known(type));
      }
      return start * factor + sum;
    }

    /** The cell whose code stands at a place of a TYPE; what is ahead of it is added up. */
    private int cellAt(int type, long place) {
      int cell = store.known(type);
      long more = place;
      startAdding();
      for (int depth = 0; depth < MOST_CELLS && cell >= 0; depth++) {
        takeApart(cell);
        cell = NONE;
        for (int i = 0; i < pieces.count && cell == NONE; i++) {
          int piece = pieces.get(i);
          long here = piece < 0 ? 1 : codes(piece);
          if (more >= here) {
            more -= here;
            add(piece);
          } else if (piece < 0) {
            return NONE - 1 - piece;
          } else {
            cell = piece;
          }
        }
      }
      return NONE;
    }
  }

  /** Finds the TYPES of NODES. */
  private static final class Finder {
    private final Nodes nodes;
    private final Told told;
    private final Pile[] assumed;
    // the TYPE that wouldBe() asks about
    private final Pile asked = new Pile(MOST_TOLD);
    private final Maker maker = new Maker();
    private final Store store = maker.store;
    private final Teller teller = new Teller(store);
    private final Pile row = new Pile(MOST_TOLD);
    private final int[] around = new int[NAMES];
    private final int[] found = new int[MOST_NODES];
    private final int[] generals = new int[MOST_NODES];
    private int open;
    private int askedAt;
    private int why;
    private int failedAt;

    Finder(Nodes built, Told types, Pile[] rows) {
      nodes = built;
      told = types;
      assumed = rows;
    }

    /** Finds the TYPE of a NODE, with one left open and the asked TYPE written at one (or NONE). */
    int seek(int root, int openNode, int part) {
      maker.wipe();
      Arrays.fill(around, NONE);
      Arrays.fill(found, NONE);
      Arrays.fill(generals, NONE);
      open = openNode;
      askedAt = part;
      why = 0;
      failedAt = NONE;
      typeOf(root, 0);
      return why;
    }

    /** The TYPE that was found for a NODE, in the store; NONE if none was. */
    int foundFor(int node) {
      return node >= 0 && node < MOST_NODES ? found[node] : NONE;
    }

    /** Writes the codes of the TYPE of a NODE, of which there are few, in place of a row. */
    void tellType(int node, Pile into) {
      int type = foundFor(node);
      teller.look(type, NONE);
      into.wipe();
      for (int place = 0; place < LARGEST_TYPE && place < teller.extentOf(type); place++) {
        into.put(teller.codeAt(type, place));
      }
    }

    int generalsOf(int node) {
      return node >= 0 && node < MOST_NODES ? generals[node] : NONE;
    }

    /**
     * Whether two rows of codes can be MADE ONE, with different VARIABLES; those of the other one
     * may be FIXED: then it is asked whether that comes of the one.
     */
    boolean canBecome(Pile one, Pile other, int kindOfVariables) {
      maker.wipe();
      int left = store.load(one, VARIABLE);
      return maker.isMadeOne(left, store.load(other, kindOfVariables));
    }

    private int failWith(int reason, int node) {
      why = reason;
      failedAt = node;
      return NONE;
    }

    private int aroundOf(int name) {
      return name >= 0 && name < NAMES ? around[name] : NONE;
    }

    private void give(int name, int type) {
      if (name >= 0 && name < NAMES) {
        around[name] = type;
      }
    }

    private int typeOf(int node, int depth) {
      if (!nodes.has(node) || depth > DEEPEST) {
        return failWith(TOO_LARGE, node);
      }
      int type = checked(node, node == open ? store.leaf(VARIABLE) : byCode(node, depth));
      if (type != NONE && node == askedAt) {
        boolean isOne = maker.isMadeOne(type, store.load(asked, VARIABLE));
        type = checked(node, isOne ? type : NONE);
      }
      found[node] = type;
      return type;
    }

    /** The TYPE that was found for a NODE; if none was, or it is too large, it FAILS here. */
    private int checked(int node, int type) {
      if (why != 0) {
        return NONE;
      }
      if (maker.why != 0) {
        return failWith(maker.why, node);
      }
      return type == NONE || store.isTooLarge(type) ? failWith(TOO_LARGE, node) : type;
    }

    private int byCode(int node, int depth) {
      switch (nodes.code(node)) {
        case N_NUMBER:
          return store.leaf(NUMBER);
        case N_TRUTH:
          return store.leaf(TRUTH);
        case N_NAME:
          return ofName(node);
        case N_FUN:
          return ofFun(node, depth);
        case N_LET:
          return ofBody(node, typeOf(nodes.part(node, 0), depth + 1), depth);
        case N_REC:
          return ofBody(node, ofOwnValue(node, depth), depth);
        case N_CHOOSE:
          return ofChoose(node, depth);
        case N_FIRST:
        case N_SECOND:
          return ofHalf(node, depth);
        case N_EMPTY:
          return store.cell(LIST, store.leaf(VARIABLE), NONE);
        case N_UNLINK:
          return ofUnlink(node, depth);
        case N_BARE:
          return store.cell(RECORD, store.leaf(END), NONE);
        case N_AT:
        case N_LESS:
          return ofField(node, depth);
        case N_PLUS:
          return ofPlus(node, depth);
        case N_WRITTEN:
          return ofWritten(node, depth);
        default:
          return ofTwo(node, depth);
      }
    }

    private int ofName(int node) {
      int name = nodes.detail(node);
      int type = aroundOf(name);
      if (type != NONE) {
        return store.isTooLarge(type) ? failWith(TOO_LARGE, node) : store.freshCopy(type);
      }
      if (name < 0 || name >= NAMES || assumed[name].count == 0) {
        return failWith(UNKNOWN, node);
      }
      return store.load(assumed[name], VARIABLE);
    }

    private int ofFun(int node, int depth) {
      int name = nodes.detail(node);
      int before = aroundOf(name);
      int given = store.leaf(VARIABLE);
      give(name, given);
      int body = typeOf(nodes.part(node, 0), depth + 1);
      give(name, before);
      return body == NONE ? NONE : store.cell(FUNCTION, given, body);
    }

    /** The value of a REC, for which its own name has a TYPE that is not GENERAL. */
    private int ofOwnValue(int node, int depth) {
      int name = nodes.detail(node);
      int before = aroundOf(name);
      int own = store.leaf(VARIABLE);
      give(name, own);
      int value = typeOf(nodes.part(node, 0), depth + 1);
      give(name, before);
      return value != NONE && maker.isMadeOne(own, value) ? value : NONE;
    }

    private int ofBody(int node, int value, int depth) {
      if (value == NONE) {
        return NONE;
      }
      generals[node] = store.makeGeneral(value, around);
      int name = nodes.detail(node);
      int before = aroundOf(name);
      give(name, value);
      int body = typeOf(nodes.part(node, 1), depth + 1);
      give(name, before);
      return body;
    }

    private int ofChoose(int node, int depth) {
      int condition = typeOf(nodes.part(node, 0), depth + 1);
      if (condition == NONE || !maker.isMadeOne(condition, store.leaf(TRUTH))) {
        return NONE;
      }
      int one = typeOf(nodes.part(node, 1), depth + 1);
      int other = one == NONE ? NONE : typeOf(nodes.part(node, 2), depth + 1);
      return other != NONE && maker.isMadeOne(one, other) ? one : NONE;
    }

    private int ofHalf(int node, int depth) {
      int pair = typeOf(nodes.part(node, 0), depth + 1);
      if (pair == NONE) {
        return NONE;
      }
      int first = store.leaf(VARIABLE);
      int second = store.leaf(VARIABLE);
      if (!maker.isMadeOne(pair, store.cell(PAIR, first, second))) {
        return NONE;
      }
      return nodes.code(node) == N_FIRST ? first : second;
    }

    private int ofUnlink(int node, int depth) {
      int list = typeOf(nodes.part(node, 0), depth + 1);
      int item = store.leaf(VARIABLE);
      if (list == NONE || !maker.isMadeOne(list, store.cell(LIST, item, NONE))) {
        return NONE;
      }
      int ifEmpty = typeOf(nodes.part(node, 1), depth + 1);
      if (ifEmpty == NONE) {
        return NONE;
      }
      int head = nodes.detail(node);
      int tail = nodes.tail(node);
      int headBefore = aroundOf(head);
      int tailBefore = aroundOf(tail);
      give(head, item);
      give(tail, list);
      int otherwise = typeOf(nodes.part(node, 2), depth + 1);
      give(head, headBefore);
      give(tail, tailBefore);
      return otherwise != NONE && maker.isMadeOne(ifEmpty, otherwise) ? ifEmpty : NONE;
    }

    private int ofField(int node, int depth) {
      int record = typeOf(nodes.part(node, 0), depth + 1);
      if (record == NONE) {
        return NONE;
      }
      int inside = store.leaf(VARIABLE);
      int behind = store.leaf(VARIABLE);
      int field = store.cell(FIELD + nodes.detail(node), inside, behind);
      if (!maker.isMadeOne(record, store.cell(RECORD, field, NONE))) {
        return NONE;
      }
      return nodes.code(node) == N_AT ? inside : store.cell(RECORD, behind, NONE);
    }

    private int ofPlus(int node, int depth) {
      for (int which = 0; which < 2; which++) {
        int part = typeOf(nodes.part(node, which), depth + 1);
        if (part == NONE || !maker.isMadeOne(part, store.leaf(NUMBER))) {
          return NONE;
        }
      }
      return store.leaf(NUMBER);
    }

    private int ofWritten(int node, int depth) {
      int type = typeOf(nodes.part(node, 0), depth + 1);
      if (type == NONE) {
        return NONE;
      }
      told.write(nodes.detail(node), row);
      return maker.isMadeOne(type, store.load(row, VARIABLE)) ? type : NONE;
    }

    /** The NODES for which both PARTS are found ahead of all else. */
    private int ofTwo(int node, int depth) {
      int one = typeOf(nodes.part(node, 0), depth + 1);
      int other = one == NONE ? NONE : typeOf(nodes.part(node, 1), depth + 1);
      if (other == NONE) {
        return NONE;
      }
      switch (nodes.code(node)) {
        case N_CALL:
          int answer = store.leaf(VARIABLE);
          return maker.isMadeOne(one, store.cell(FUNCTION, other, answer)) ? answer : NONE;
        case N_PAIR:
          return store.cell(PAIR, one, other);
        case N_LINK:
          return maker.isMadeOne(other, store.cell(LIST, one, NONE)) ? other : NONE;
        case N_WITH:
          int behind = store.leaf(VARIABLE);
          if (!maker.isMadeOne(other, store.cell(RECORD, behind, NONE))) {
            return NONE;
          }
          int field = store.cell(FIELD + nodes.detail(node), one, behind);
          return store.cell(RECORD, field, NONE);
        case N_SAME:
          return maker.isMadeOne(one, other) ? store.leaf(TRUTH) : NONE;
        default:
          return NONE;
      }
    }
  }

  /** What the latest find() told; the TYPES themselves are in its finder. */
  private static final class Result {
    private final Finder finder;
    private final Teller teller;
    private int why = NONE;
    private int variables = NONE;
    private int shown = NONE;
    private int shownSecond = NONE;

    Result(Finder kept) {
      finder = kept;
      teller = kept.teller;
    }

    void startAnew(int reason, int root) {
      why = reason;
      shown = NONE;
      shownSecond = NONE;
      variables = NONE;
      if (why == 0) {
        show(typeFor(root), NONE);
        variables = teller.variables;
      }
    }

    int variablesOfAll() {
      return variables;
    }

    int failedAt() {
      return why > 0 ? finder.failedAt : NONE;
    }

    private void show(int one, int other) {
      if (one != shown || other != shownSecond) {
        teller.look(one, other);
        shown = one;
        shownSecond = other;
      }
    }

    private int typeFor(int node) {
      return why == 0 ? finder.foundFor(node) : NONE;
    }

    private int unlikeType(boolean isRight) {
      if (why != UNLIKE && why != ENDLESS) {
        return NONE;
      }
      return isRight ? finder.maker.right : finder.maker.left;
    }

    int codeAt(int node, int place) {
      int type = typeFor(node);
      show(type, NONE);
      return teller.codeAt(type, place);
    }

    int extent(int node) {
      int type = typeFor(node);
      show(type, NONE);
      return teller.extentOf(type);
    }

    int generalsOf(int node) {
      return why == 0 ? finder.generalsOf(node) : NONE;
    }

    int unlikeAt(boolean isRight, int place) {
      show(unlikeType(false), unlikeType(true));
      return teller.codeAt(unlikeType(isRight), place);
    }

    double mean() {
      long sum = 0;
      int kept = 0;
      for (int node = 0; node < MOST_NODES; node++) {
        int type = typeFor(node);
        if (type != NONE) {
          show(type, NONE);
          sum += teller.extentOf(type);
          kept++;
        }
      }
      return kept == 0 ? 0.0 : (double) sum / (double) kept;
    }

    long digestFrom(long start) {
      long d = start;
      for (int node = 0; node < MOST_NODES; node++) {
        int type = typeFor(node);
        show(type, NONE);
        d = d * 31 + teller.extentOf(type);
        d = d * 31 + generalsOf(node);
        d = teller.digestFrom(d, type);
      }
      show(unlikeType(false), unlikeType(true));
      d = teller.digestFrom(d, unlikeType(false));
      return teller.digestFrom(d, unlikeType(true));
    }
  }
}
