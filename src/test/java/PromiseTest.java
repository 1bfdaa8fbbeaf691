import java.util.Arrays;

/** Each promise of the document: ordinary calls, the edges that it names, and wrong arguments. */
public final class PromiseTest {
  private static final Check check = new Check();
  private static final Class<IndexOutOfBoundsException> INDEX = IndexOutOfBoundsException.class;
  private static final Class<IllegalArgumentException> ARGUMENT = IllegalArgumentException.class;
  private static final Class<IllegalStateException> STATE = IllegalStateException.class;

  // ---- helpers

  /** Tells a TYPE by a row of its codes, and returns its number. */
  static int tell(TypeScribe x, int... codes) {
    return tell(x, codes, new int[1]);
  }

  private static int tell(TypeScribe x, int[] codes, int[] at) {
    int code = codes[at[0]++];
    boolean two = code == 2 || code == 3 || (code >= 10 && code <= 13);
    int one = two || code == 4 || code == 5 ? tell(x, codes, at) : -1;
    int other = two ? tell(x, codes, at) : -1;
    return x.type(code, one, other);
  }

  static String typeOf(TypeScribe x, int node) {
    int[] codes = new int[x.typeSize(node)];
    for (int i = 0; i < codes.length; i++) codes[i] = x.typeAt(node, i);
    return text(codes);
  }

  static String unlike(TypeScribe x, boolean isRight) {
    int size = 0;
    while (x.unlike(isRight, size) != -1) size++;
    int[] codes = new int[size];
    for (int i = 0; i < size; i++) codes[i] = x.unlike(isRight, i);
    return text(codes);
  }

  static String text(int... codes) {
    return Arrays.toString(codes);
  }

  static TypeScribe withNodes(int count) {
    TypeScribe x = new TypeScribe();
    for (int i = 0; i < count; i++) x.number();
    return x;
  }

  /** Finds, and checks the TYPE that is found. */
  static void found(String what, TypeScribe x, int node, int... codes) {
    check.equal(what + " find", x.find(node), 0);
    check.equal(what, typeOf(x, node), text(codes));
    check.equal(what + " where", x.where(), -1);
  }

  static void failed(String what, TypeScribe x, int node, int why, int where) {
    check.equal(what + " find", x.find(node), why);
    check.equal(what + " result", x.result(), why);
    check.equal(what + " where", x.where(), where);
    check.equal(what + " no type", x.typeSize(node), 0);
  }

  static void unlikes(String what, TypeScribe x, int[] lefts, int[] rights) {
    check.equal(what + " left", unlike(x, false), text(lefts));
    check.equal(what + " right", unlike(x, true), text(rights));
  }

  static int[] row(int... codes) {
    return codes;
  }

  /** A chain of FUNs above a NUMBER, of a SIZE. */
  static int chain(TypeScribe x, int size) {
    int node = x.number();
    for (int i = 1; i < size; i++) node = x.fun(0, node);
    return node;
  }

  // ---- building

  static void newObject() {
    check.promise(1);
    TypeScribe x = new TypeScribe();
    check.equal("nodes", x.nodes(), 0);
    check.equal("types", x.types(), 0);
    check.equal("result", x.result(), -1);
    check.equal("where", x.where(), -1);
    check.equal("variables", x.variables(), -1);
    check.equal("mean", x.meanType(), 0.0);
    for (int name = 0; name < 8; name++) check.equal("forget", x.forget(name), false);
  }

  static void leaves() {
    TypeScribe x = new TypeScribe();
    check.promise(2);
    check.equal("number", x.number(), 0);
    check.equal("code", x.codeOf(0), 0);
    found("number", x, 0, 0);
    check.promise(3);
    check.equal("truth", x.truth(), 1);
    check.equal("code", x.codeOf(1), 1);
    found("truth", x, 1, 1);
    check.promise(4);
    check.equal("name", x.name(7), 2);
    check.equal("code", x.codeOf(2), 2);
    check.equal("loose", x.loose(2), 128);
    check.fails("name(-1)", ARGUMENT, () -> x.name(-1));
    check.fails("name(8)", ARGUMENT, () -> x.name(8));
    check.promise(10);
    check.equal("empty", x.empty(), 3);
    check.equal("code", x.codeOf(3), 11);
    found("empty", x, 3, 4, 100);
    check.promise(12);
    check.equal("bare", x.bare(), 4);
    check.equal("code", x.codeOf(4), 14);
    found("bare", x, 4, 5, 7);
    check.equal("nodes", x.nodes(), 5);
  }

  static void fullOfNodes() {
    TypeScribe x = withNodes(40);
    int t = tell(x, 0);
    check.equal("nodes", x.nodes(), 40);
    int[] promises = {2, 3, 4, 10, 12, 5, 6, 7, 8, 9, 11, 13, 14, 15};
    Check.Call[] calls = {
      () -> x.number(), () -> x.truth(), () -> x.name(0), () -> x.empty(), () -> x.bare(),
      () -> x.fun(0, 0), () -> x.let(true, 0, 0, 1), () -> x.choose(0, 1, 2),
      () -> x.two(8, 0, 1), () -> x.half(true, 0), () -> x.unlink(0, 1, 0, 1, 2),
      () -> x.with(0, 0, 1), () -> x.at(true, 0, 0), () -> x.written(0, t)
    };
    for (int i = 0; i < calls.length; i++) {
      check.promise(promises[i]);
      check.fails("a 41st NODE", STATE, calls[i]);
    }
    check.promise(4);
    check.fails("the name comes first", ARGUMENT, () -> x.name(8));
    check.promise(5);
    check.fails("the NODE comes first", INDEX, () -> x.fun(8, 40));
    check.fails("the name comes first", ARGUMENT, () -> x.fun(8, 39));
    check.equal("nothing is changed", x.above(0), -1);
    check.promise(15);
    check.equal("the TYPE is not used", x.assume(0, t), 0);
  }

  static void functions() {
    TypeScribe x = new TypeScribe();
    check.promise(5);
    int v = x.name(3);
    int f = x.fun(3, v);
    check.equal("code", x.codeOf(f), 3);
    check.equal("above", x.above(v), f);
    found("identity", x, f, 2, 100, 100);
    check.fails("a PART already", INDEX, () -> x.fun(0, v));
    check.fails("no such NODE", INDEX, () -> x.fun(0, 2));
    check.fails("no such NODE", INDEX, () -> x.fun(9, -1));
    check.fails("name", ARGUMENT, () -> x.fun(8, f));
    check.fails("name", ARGUMENT, () -> x.fun(-1, f));
    int outer = x.fun(2, f);
    found("of two", x, outer, 2, 100, 2, 101, 101);
    check.equal("the inner one again", typeOf(x, f), text(2, 100, 100));
    int shadowed = x.fun(1, x.fun(1, x.two(18, x.name(1), x.number())));
    found("the inner name counts", x, shadowed, 2, 100, 2, 0, 0);
  }

  static void lets() {
    TypeScribe x = new TypeScribe();
    check.promise(6);
    int id = x.fun(0, x.name(0));
    int body = x.two(8, x.two(4, x.name(1), x.number()), x.two(4, x.name(1), x.truth()));
    int let = x.let(false, 1, id, body);
    check.equal("code", x.codeOf(let), 5);
    found("a general name", x, let, 3, 0, 1);
    check.equal("general", x.general(let), 1);
    int c = x.fun(0, x.two(8, x.two(4, x.name(0), x.number()), x.two(4, x.name(0), x.truth())));
    failed("a name that is not general", x, c, 1, c - 2);
    x.clear();
    int kept = x.let(false, 1, x.name(0), x.two(8, x.name(1), x.name(1)));
    int fun = x.fun(0, kept);
    found("what is around is not general", x, fun, 2, 100, 3, 100, 100);
    check.equal("none general", x.general(kept), 0);
    int value = x.fun(0, x.two(4, x.name(2), x.name(0)));
    int rec = x.let(true, 2, value, x.name(2));
    check.equal("code", x.codeOf(rec), 6);
    found("a REC", x, rec, 2, 100, 101);
    check.equal("general", x.general(rec), 2);
    int plain = x.let(false, 2, x.fun(0, x.two(4, x.name(2), x.name(0))), x.name(2));
    failed("a LET does not know itself", x, plain, 3, plain - 5);
    int endless = x.let(true, 4, x.two(12, x.name(4), x.empty()), x.name(4));
    failed("a REC that is endless", x, endless, 2, endless);
    unlikes("its own is left", x, row(100), row(4, 100));
    int one = x.number(), two = x.number();
    check.fails("the same twice", ARGUMENT, () -> x.let(false, 0, one, one));
    check.fails("name", ARGUMENT, () -> x.let(false, 8, one, two));
    check.fails("name", ARGUMENT, () -> x.let(true, -1, one, two));
    check.fails("no such value", INDEX, () -> x.let(true, 8, 40, two));
    check.fails("no such body", INDEX, () -> x.let(true, 0, one, -1));
    check.fails("a PART already", INDEX, () -> x.let(true, 0, endless - 1, two));
    check.equal("nothing is changed", x.above(one), -1);
  }

  static void recursionOfRec() {
    check.promise(6);
    TypeScribe x = new TypeScribe();
    int value = x.fun(0, x.two(8, x.two(4, x.name(1), x.number()), x.two(4, x.name(1), x.truth())));
    int rec = x.let(true, 1, value, x.name(1));
    failed("in its own value a name is not general", x, rec, 1, value - 2);
    int inner = x.let(false, 1, x.fun(0, x.name(0)), x.two(4, x.name(1), x.name(2)));
    int outer = x.let(false, 2, x.truth(), inner);
    found("names around", x, outer, 1);
    check.equal("general of the inner", x.general(inner), 1);
    check.equal("general of the outer", x.general(outer), 0);
    x.clear();
    int after = x.two(8, x.let(false, 1, x.number(), x.name(1)), x.name(1));
    failed("behind a LET the name has nothing", x, after, 3, after - 1);
    after = x.two(8, x.let(true, 1, x.number(), x.name(1)), x.name(1));
    failed("nor behind a REC", x, after, 3, after - 1);
    check.promise(5);
    after = x.two(8, x.fun(1, x.name(1)), x.name(1));
    failed("nor behind a FUN", x, after, 3, after - 1);
    check.promise(11);
    after = x.two(8, x.unlink(x.empty(), x.number(), 1, 2, x.number()), x.name(1));
    failed("behind an UNLINK the HEAD has nothing", x, after, 3, after - 1);
    after = x.two(8, x.unlink(x.empty(), x.number(), 1, 2, x.number()), x.name(2));
    failed("nor has the TAIL", x, after, 3, after - 1);
    x.clear();
    int both = x.two(8, x.unlink(x.empty(), x.number(), 0, 0, x.number()), x.name(0));
    found("what the name had ahead of it", x, x.fun(0, both), 2, 100, 3, 0, 100);
  }

  static void chooses() {
    TypeScribe x = new TypeScribe();
    check.promise(7);
    int c = x.choose(x.truth(), x.number(), x.number());
    check.equal("code", x.codeOf(c), 7);
    found("choose", x, c, 0);
    int d = x.choose(x.number(), x.number(), x.number());
    failed("the condition", x, d, 1, d);
    unlikes("the condition is left", x, row(0), row(1));
    int e = x.choose(x.truth(), x.number(), x.empty());
    failed("the others", x, e, 1, e);
    unlikes("the others", x, row(0), row(4, 100));
    int inner = x.name(0);
    int f = x.choose(x.number(), inner, x.number());
    failed("the condition is MADE ONE first", x, f, 1, f);
    int a = x.number(), b = x.number();
    check.fails("same", ARGUMENT, () -> x.choose(a, a, b));
    check.fails("same", ARGUMENT, () -> x.choose(a, b, a));
    check.fails("same", ARGUMENT, () -> x.choose(b, a, a));
    check.fails("no such", INDEX, () -> x.choose(-1, a, a));
    check.fails("no such", INDEX, () -> x.choose(a, 40, a));
    check.fails("a PART", INDEX, () -> x.choose(a, a, inner));
  }

  static void twos() {
    TypeScribe x = new TypeScribe();
    check.promise(8);
    found("call", x, x.two(4, x.fun(0, x.number()), x.truth()), 0);
    int call = x.two(4, x.number(), x.truth());
    failed("a call of a number", x, call, 1, call);
    unlikes("the function is left", x, row(0), row(2, 1, 100));
    found("pair", x, x.two(8, x.truth(), x.empty()), 3, 1, 4, 100);
    found("link", x, x.two(12, x.truth(), x.empty()), 4, 1);
    int link = x.two(12, x.number(), x.two(12, x.truth(), x.empty()));
    failed("link", x, link, 1, link);
    unlikes("the tail is left", x, row(4, 1), row(4, 0));
    found("plus", x, x.two(18, x.number(), x.number()), 0);
    x.clear();
    int plus = x.two(18, x.number(), x.truth());
    failed("plus", x, plus, 1, plus);
    unlikes("plus", x, row(1), row(0));
    int early = x.two(18, x.truth(), x.name(0));
    failed("the first is MADE ONE ahead of the second", x, early, 1, early);
    found("same", x, x.two(19, x.empty(), x.empty()), 1);
    int same = x.two(19, x.number(), x.truth());
    failed("same", x, same, 1, same);
    unlikes("same", x, row(0), row(1));
    int a = x.number(), b = x.number();
    for (int code : new int[] {-1, 0, 3, 5, 7, 9, 11, 13, 15, 17, 20, 21}) {
      check.fails("code " + code, ARGUMENT, () -> x.two(code, a, b));
    }
    check.fails("same twice", ARGUMENT, () -> x.two(4, a, a));
    check.fails("no such NODE first", INDEX, () -> x.two(5, a, 40));
    check.fails("a PART", INDEX, () -> x.two(4, 0, a));
    for (int code : new int[] {4, 8, 12, 18, 19}) {
      check.equal("code", x.codeOf(x.two(code, x.number(), x.number())), code);
    }
  }

  static void halves() {
    TypeScribe x = new TypeScribe();
    check.promise(9);
    int first = x.half(false, x.two(8, x.number(), x.truth()));
    int second = x.half(true, x.two(8, x.number(), x.truth()));
    check.equal("code", x.codeOf(first), 9);
    check.equal("code", x.codeOf(second), 10);
    found("first", x, first, 0);
    found("second", x, second, 1);
    int f = x.fun(0, x.half(true, x.name(0)));
    found("of a name", x, f, 2, 3, 100, 101, 101);
    int wrong = x.half(false, x.number());
    failed("no pair", x, wrong, 1, wrong);
    unlikes("no pair", x, row(0), row(3, 100, 101));
    check.fails("no such", INDEX, () -> x.half(true, -1));
    check.fails("no such", INDEX, () -> x.half(false, x.nodes()));
    check.fails("a PART", INDEX, () -> x.half(false, 0));
  }

  static void unlinks() {
    TypeScribe x = new TypeScribe();
    check.promise(11);
    int u = x.unlink(x.empty(), x.number(), 0, 1, x.name(0));
    check.equal("code", x.codeOf(u), 13);
    found("the head", x, u, 0);
    check.equal("the list is of them", typeOf(x, 0), text(4, 0));
    int v = x.unlink(x.two(12, x.truth(), x.empty()), x.empty(), 2, 2, x.name(2));
    found("the TAIL counts", x, v, 4, 1);
    int w = x.unlink(x.number(), x.name(0), 0, 1, x.number());
    failed("no list", x, w, 1, w);
    unlikes("no list", x, row(0), row(4, 100));
    int y = x.unlink(x.empty(), x.name(0), 0, 1, x.number());
    failed("the names are not there for an empty one", x, y, 3, y - 2);
    int z = x.unlink(x.empty(), x.number(), 0, 1, x.name(1));
    failed("the others", x, z, 1, z);
    unlikes("the others", x, row(0), row(4, 100));
    x.clear();
    int a = x.number(), b = x.number(), c = x.number();
    check.fails("same", ARGUMENT, () -> x.unlink(a, a, 0, 1, c));
    check.fails("same", ARGUMENT, () -> x.unlink(a, b, 0, 1, a));
    check.fails("same", ARGUMENT, () -> x.unlink(a, b, 0, 1, b));
    check.fails("head", ARGUMENT, () -> x.unlink(a, b, 8, 1, c));
    check.fails("tail", ARGUMENT, () -> x.unlink(a, b, 0, -1, c));
    check.fails("no such", INDEX, () -> x.unlink(a, a, 8, 8, 3));
    check.fails("no such", INDEX, () -> x.unlink(a, 3, 0, 0, c));
    check.fails("no such", INDEX, () -> x.unlink(-1, b, 0, 0, c));
    x.unlink(a, b, 0, 1, c);
    check.equal("above", x.above(c), 3);
    check.fails("a PART", INDEX, () -> x.unlink(3, a, 0, 1, b));
  }

  static void records() {
    TypeScribe x = new TypeScribe();
    check.promise(13);
    int r = x.with(2, x.number(), x.with(0, x.truth(), x.bare()));
    check.equal("code", x.codeOf(r), 15);
    found("by labels", x, r, 5, 10, 1, 12, 0, 7);
    int twice = x.with(2, x.empty(), r);
    found("the newest is first", x, twice, 5, 10, 1, 12, 4, 100, 12, 0, 7);
    int wrong = x.with(0, x.number(), x.number());
    failed("no record", x, wrong, 1, wrong);
    unlikes("no record", x, row(0), row(5, 100));
    int a = x.number(), b = x.bare();
    check.fails("label", ARGUMENT, () -> x.with(4, a, b));
    check.fails("label", ARGUMENT, () -> x.with(-1, a, b));
    check.fails("same", ARGUMENT, () -> x.with(0, a, a));
    check.fails("no such", INDEX, () -> x.with(4, a, 40));
    check.fails("a PART", INDEX, () -> x.with(0, r, b));
    check.promise(14);
    int less = x.at(true, 2, twice);
    check.equal("code", x.codeOf(less), 17);
    found("less takes the first away", x, less, 5, 10, 1, 12, 0, 7);
    int at = x.at(false, 2, less);
    check.equal("code", x.codeOf(at), 16);
    found("at", x, at, 0);
    int none = x.at(false, 3, x.bare());
    failed("no such label", x, none, 1, none);
    unlikes("no such label", x, row(5, 7), row(5, 13, 100, 101));
    check.fails("label", ARGUMENT, () -> x.at(true, 4, at));
    check.fails("label", ARGUMENT, () -> x.at(false, -1, at));
    check.fails("no such", INDEX, () -> x.at(false, 9, x.nodes()));
    check.fails("a PART", INDEX, () -> x.at(false, 0, less));
    x.clear();
    int open = x.fun(0, x.at(true, 1, x.name(0)));
    found("a ROW that is open", x, open, 2, 5, 11, 100, 101, 5, 101);
    int both = x.fun(0, x.two(8, x.at(false, 1, x.name(0)), x.at(false, 0, x.name(0))));
    found("labels as they come", x, both, 2, 5, 10, 100, 11, 101, 102, 3, 101, 100);
    int rest = x.fun(0, x.two(8, x.at(false, 1, x.name(0)), x.at(true, 0, x.name(0))));
    found("what is behind grows too", x, rest,
        2, 5, 10, 100, 11, 101, 102, 3, 101, 5, 11, 101, 102);
  }

  /** The same ROW behind different FIELDS can never be one. */
  static void rowsThatAreEndless() {
    check.promise(26);
    TypeScribe x = new TypeScribe();
    int one = x.with(0, x.number(), x.name(0));
    int other = x.with(1, x.number(), x.name(0));
    int choose = x.choose(x.truth(), one, other);
    int f = x.fun(0, choose);
    failed("same VARIABLE behind", x, f, 2, choose);
    unlikes("both", x, row(5, 10, 0, 100), row(5, 11, 0, 100));
    x.clear();
    int far = x.with(3, x.number(), x.with(2, x.truth(), x.with(1, x.empty(), x.bare())));
    int open = x.at(true, 1, x.at(true, 2, x.name(0)));
    int pass = x.two(4, x.fun(0, open), far);
    found("FIELDS behind others", x, pass, 5, 13, 0, 7);
    int near = x.with(1, x.empty(), x.with(2, x.truth(), x.with(3, x.number(), x.bare())));
    far = x.with(3, x.number(), x.with(2, x.truth(), x.with(1, x.empty(), x.bare())));
    found("all the other way round", x, x.two(19, near, far), 1);
    x.clear();
    // the FIELDS of the left ROW come as they stand in it: label 3 ahead of label 1
    int l = x.with(3, x.number(), x.with(1, x.number(), x.bare()));
    int r = x.with(1, x.truth(), x.with(3, x.number(), x.bare()));
    int same = x.two(19, l, r);
    failed("types of FIELDS", x, same, 1, same);
    x.clear();
    int left = x.with(2, x.name(0), x.with(0, x.number(), x.bare()));
    int right = x.with(2, x.two(8, x.name(0), x.number()), x.with(0, x.truth(), x.bare()));
    int pair = x.fun(0, x.two(19, left, right));
    failed("2 ahead of 0, as it stands", x, pair, 2, pair - 1);
    x.clear();
    left = x.with(0, x.number(), x.with(2, x.name(0), x.bare()));
    right = x.with(2, x.two(8, x.name(0), x.number()), x.with(0, x.truth(), x.bare()));
    pair = x.fun(0, x.two(19, left, right));
    failed("0 ahead of 2, as it stands", x, pair, 1, pair - 1);
  }

  static void writtens() {
    TypeScribe x = new TypeScribe();
    check.promise(15);
    int t = tell(x, 2, 20, 20);
    int row = tell(x, 7);
    int w = x.written(x.fun(0, x.name(0)), t);
    check.equal("code", x.codeOf(w), 20);
    found("written", x, w, 2, 100, 100);
    int n = x.number();
    check.fails("used", INDEX, () -> x.written(n, t));
    check.fails("beneath another one", INDEX, () -> x.written(n, 0));
    check.fails("no such TYPE", INDEX, () -> x.written(n, 4));
    check.fails("no such TYPE", INDEX, () -> x.written(n, -1));
    check.fails("no such NODE", INDEX, () -> x.written(40, row));
    check.fails("a PART", INDEX, () -> x.written(0, row));
    check.fails("a ROW", ARGUMENT, () -> x.written(n, row));
    int wrong = x.written(n, tell(x, 4, 20));
    failed("another type", x, wrong, 1, wrong);
    unlikes("what is written is right", x, row(0), row(4, 100));
    int narrow = x.written(x.empty(), tell(x, 4, 1));
    found("narrower", x, narrow, 4, 1);
    check.equal("what is beneath too", typeOf(x, narrow - 1), text(4, 1));
    TypeScribe y = new TypeScribe();
    int f = y.written(y.fun(0, y.name(0)), tell(y, 2, 20, 21));
    found("VARIABLES that are MADE ONE", y, f, 2, 100, 100);
    int g = y.written(y.fun(0, y.fun(1, y.name(0))), tell(y, 2, 22, 2, 22, 22));
    found("the same number is the same VARIABLE", y, g, 2, 100, 2, 100, 100);
  }

  static void clears() {
    TypeScribe x = new TypeScribe();
    check.promise(16);
    check.equal("none", x.clear(), 0);
    int keep = tell(x, 2, 20, 21);
    x.assume(1, keep);
    int f = x.fun(0, x.two(8, x.name(0), x.name(1)));
    found("before", x, f, 2, 100, 3, 100, 2, 101, 102);
    check.equal("clear", x.clear(), 4);
    check.equal("nodes", x.nodes(), 0);
    check.equal("types", x.types(), 0);
    check.equal("the RESULT stays", typeOf(x, f), text(2, 100, 3, 100, 2, 101, 102));
    check.equal("result stays", x.result(), 0);
    check.equal("variables stay", x.variables(), 3);
    check.equal("mean stays", x.meanType(), (7 + 1 + 3 + 5) / 4.0);
    check.fails("no NODE", INDEX, () -> x.size(0));
    check.equal("numbers start anew", x.name(1), 0);
    check.equal("and those of TYPES", x.type(0, 5, 5), 0);
    found("what is ASSUMED stays", x, 0, 2, 100, 101);
    check.equal("a TYPE may be used anew", x.assume(2, 0), 0);
    check.equal("clear", x.clear(), 1);
    int bad = x.two(4, x.number(), x.number());
    x.find(bad);
    x.clear();
    check.equal("where stays", x.where(), bad);
    check.equal("unlike stays", x.unlike(false, 0), 0);
  }

  static void types() {
    TypeScribe x = new TypeScribe();
    check.promise(17);
    for (int code : new int[] {-1, 6, 8, 9, 14, 19, 26, 29, 36, 100}) {
      check.fails("code " + code, ARGUMENT, () -> x.type(code, 0, 0));
    }
    int count = 0;
    for (int code : new int[] {0, 1, 7, 20, 25, 30, 35}) {
      check.equal("nothing beneath", x.type(code, -7, 99), count++);
    }
    check.fails("none such", INDEX, () -> x.type(4, 7, 0));
    check.fails("none such", INDEX, () -> x.type(2, 0, 7));
    check.fails("none such", INDEX, () -> x.type(3, -1, 0));
    check.fails("not TYPE", STATE, () -> x.type(4, 2, 0));
    check.fails("not ROW", STATE, () -> x.type(5, 0, 0));
    check.fails("not TYPE", STATE, () -> x.type(2, 0, 2));
    check.fails("not TYPE", STATE, () -> x.type(3, 5, 0));
    check.fails("not TYPE", STATE, () -> x.type(10, 2, 5));
    check.fails("not ROW", STATE, () -> x.type(13, 0, 1));
    check.fails("both the same", STATE, () -> x.type(2, 0, 0));
    check.equal("function", x.type(2, 0, 1), 7);
    check.fails("used", INDEX, () -> x.type(4, 0, 0));
    check.fails("used, the second", INDEX, () -> x.type(3, 3, 1));
    check.equal("field", x.type(12, 7, 2), 8);
    check.equal("record", x.type(5, 8, -1), 9);
    check.fails("a ROW that is used", INDEX, () -> x.type(5, 8, -1));
    check.equal("list", x.type(4, 9, 99), 10);
    check.equal("pair", x.type(3, 10, 3), 11);
    check.equal("field of a VARIABLE", x.type(10, 4, 5), 12);
    check.equal("types", x.types(), 13);
    for (int i = 13; i < 40; i++) x.type(0, 0, 0);
    check.fails("there are 40", STATE, () -> x.type(0, 0, 0));
    check.fails("there are 40", STATE, () -> x.type(4, 39, 0));
    check.fails("the code first", ARGUMENT, () -> x.type(6, 0, 0));
    check.fails("the number first", INDEX, () -> x.type(4, 40, 0));
    check.equal("the TYPE is not used", x.assume(0, 39), 0);
    check.promise(21);
    check.equal("types", x.types(), 40);
  }

  static void assumes() {
    TypeScribe x = new TypeScribe();
    check.promise(18);
    int t = tell(x, 2, 20, 2, 21, 20);
    int row = tell(x, 30);
    check.fails("name", ARGUMENT, () -> x.assume(8, 99));
    check.fails("name", ARGUMENT, () -> x.assume(-1, t));
    check.fails("none such", INDEX, () -> x.assume(0, 6));
    check.fails("none such", INDEX, () -> x.assume(0, -1));
    check.fails("used", INDEX, () -> x.assume(0, 0));
    check.fails("a ROW", STATE, () -> x.assume(0, row));
    check.equal("how many are GENERAL", x.assume(0, t), 2);
    check.fails("used", INDEX, () -> x.assume(1, t));
    int p = x.two(8, x.name(0), x.name(0));
    found("new VARIABLES each time", x, p, 3, 2, 100, 2, 101, 100, 2, 102, 2, 103, 102);
    check.equal("in place", x.assume(0, tell(x, 1)), 0);
    found("in place", x, p, 3, 1, 1);
  }

  static void assumedLimits() {
    check.promise(18);
    TypeScribe x = new TypeScribe();
    int twelve = tell(x, 4, 4, 4, 4, 4, 4, 4, 4, 5, 10, 20, 30);
    check.equal("12 codes", x.assume(1, twelve), 2);
    int n = x.name(1);
    found("12 codes", x, n, 4, 4, 4, 4, 4, 4, 4, 4, 5, 10, 100, 101);
    int f = x.fun(1, x.name(1));
    found("a NODE around gives it another one", x, f, 2, 100, 100);
    int thirteen = tell(x, 4, 4, 4, 4, 4, 4, 4, 4, 4, 5, 10, 20, 30);
    check.fails("13 codes", STATE, () -> x.assume(1, thirteen));
    found("nothing is changed", x, n, 4, 4, 4, 4, 4, 4, 4, 4, 5, 10, 100, 101);
    check.equal("it is not used", x.type(4, thirteen, 0), thirteen + 1);
    check.promise(19);
    check.equal("forget", x.forget(1), true);
    check.equal("forget again", x.forget(1), false);
    failed("nothing is ASSUMED", x, n, 3, n);
    check.fails("name", ARGUMENT, () -> x.forget(8));
    check.fails("name", ARGUMENT, () -> x.forget(-1));
    check.fails("it stays used", INDEX, () -> x.assume(1, twelve));
  }

  // ---- what expressions are

  static void looks() {
    TypeScribe x = new TypeScribe();
    int a = x.name(0), b = x.name(1), c = x.name(2);
    int u = x.unlink(a, b, 1, 2, c);
    int d = x.two(8, x.name(1), u);
    check.promise(20);
    check.equal("nodes", x.nodes(), 6);
    check.promise(22);
    check.equal("code", x.codeOf(u), 13);
    check.fails("none", INDEX, () -> x.codeOf(6));
    check.fails("none", INDEX, () -> x.codeOf(-1));
    check.promise(23);
    check.equal("size", x.size(a), 1);
    check.equal("size", x.size(u), 4);
    check.equal("size", x.size(d), 6);
    check.fails("none", INDEX, () -> x.size(6));
    check.fails("none", INDEX, () -> x.size(-1));
    check.promise(24);
    check.equal("above", x.above(c), u);
    check.equal("above", x.above(u), d);
    check.equal("above", x.above(d), -1);
    check.fails("none", INDEX, () -> x.above(6));
    check.fails("none", INDEX, () -> x.above(-1));
    check.promise(25);
    check.equal("TAIL is given for the third PART", x.loose(u), 3);
    check.equal("loose", x.loose(d), 3);
    check.equal("FUN", x.loose(x.fun(1, d)), 1);
    int let = x.let(false, 4, x.name(4), x.two(8, x.name(4), x.name(5)));
    check.equal("LET gives it for the body", x.loose(let), 16 + 32);
    int rec = x.let(true, 4, x.two(8, x.name(4), x.name(6)), x.name(4));
    check.equal("REC for both", x.loose(rec), 64);
    int v = x.unlink(x.name(7), x.name(6), 7, 6, x.two(8, x.name(7), x.name(6)));
    check.equal("UNLINK", x.loose(v), 128 + 64);
    check.equal("none", x.loose(x.number()), 0);
    check.fails("none", INDEX, () -> x.loose(x.nodes()));
    check.fails("none", INDEX, () -> x.loose(-1));
    check.promise(21);
    check.equal("no types", x.types(), 0);
    tell(x, 5, 10, 0, 7);
    check.equal("TYPES and ROWS", x.types(), 4);
  }

  // ---- finding

  static void finds() {
    TypeScribe x = new TypeScribe();
    check.promise(26);
    check.fails("none", INDEX, () -> x.find(0));
    check.fails("none", INDEX, () -> x.find(-1));
    int node = chain(x, 16);
    check.equal("SIZE 16", x.find(node), 0);
    int larger = x.fun(0, node);
    check.fails("SIZE 17", STATE, () -> x.find(larger));
    check.equal("the RESULT is as it was", x.typeSize(node), 31);
    check.promise(27);
    check.equal("result", x.result(), 0);
    x.clear();
    int v = x.name(2);
    int w = x.two(8, x.number(), v);
    check.equal("unknown", x.find(w), 3);
    check.equal("result", x.result(), 3);
    check.promise(28);
    check.equal("where", x.where(), v);
    check.equal("no unlikes", x.unlike(false, 0), -1);
    int self = x.fun(2, x.two(4, x.name(2), x.name(2)));
    check.equal("endless", x.find(self), 2);
    check.equal("where", x.where(), self - 1);
    x.find(x.number());
    check.equal("where", x.where(), -1);
    check.equal("result", x.result(), 0);
  }

  static void places() {
    TypeScribe x = new TypeScribe();
    int v = x.name(0);
    int plus = x.two(18, v, x.number());
    int f = x.fun(0, plus);
    x.find(f);
    check.promise(29);
    check.equal("with all that was found out", x.typeAt(v, 0), 0);
    check.equal("first", x.typeAt(f, 0), 2);
    check.equal("last", x.typeAt(f, 2), 0);
    check.equal("no place", x.typeAt(f, 3), -1);
    check.equal("no place", x.typeAt(f, -1), -1);
    check.equal("no NODE", x.typeAt(-1, 0), -1);
    check.equal("no NODE", x.typeAt(40, 0), -1);
    check.equal("not in it", x.typeAt(f + 1, 0), -1);
    check.promise(30);
    check.equal("size", x.typeSize(f), 3);
    check.equal("size", x.typeSize(v), 1);
    check.equal("no NODE", x.typeSize(-1), 0);
    check.equal("no NODE", x.typeSize(40), 0);
    check.equal("no NODE", x.typeSize(Integer.MIN_VALUE), 0);
    check.promise(38);
    check.equal("mean", x.meanType(), 6 / 4.0);
    x.find(v);
    check.equal("failed", x.meanType(), 0.0);
    check.promise(29);
    check.equal("failed", x.typeAt(f, 0), -1);
    check.promise(30);
    check.equal("failed", x.typeSize(f), 0);
    x.find(f - 2);
    check.equal("not in the new one", x.typeSize(f), 0);
    check.equal("the new one", x.typeSize(f - 2), 1);
    check.promise(38);
    int three = x.two(8, x.two(8, x.number(), x.number()), x.number());
    x.find(three);
    check.equal("not cut", x.meanType(), (5 + 3 + 1 + 1 + 1) / 5.0);
  }

  static void generals() {
    TypeScribe x = new TypeScribe();
    check.promise(31);
    int inner = x.let(false, 2, x.fun(1, x.two(8, x.name(0), x.name(1))), x.name(2));
    int f = x.fun(0, inner);
    x.find(f);
    check.equal("one of two", x.general(inner), 1);
    check.equal("no LET", x.general(f), -1);
    check.equal("none such", x.general(-1), -1);
    check.equal("none such", x.general(40), -1);
    check.equal("none such", x.general(39), -1);
    int rows = x.let(false, 0, x.fun(0, x.at(false, 1, x.name(0))), x.number());
    x.find(rows);
    check.equal("ROWS count", x.general(rows), 2);
    check.equal("not in this one", x.general(inner), -1);
    int fails = x.let(false, 0, x.empty(), x.name(1));
    x.find(fails);
    check.equal("failed", x.general(fails), -1);
    x.clear();
    x.assume(7, tell(x, 2, 20, 21));
    int let = x.let(false, 0, x.name(7), x.name(0));
    x.find(let);
    check.equal("what is ASSUMED is GENERAL", x.general(let), 2);
    x.clear();
    int nested = x.let(false, 1, x.name(0), x.two(8, x.name(1), x.name(1)));
    int outer = x.let(false, 0, x.empty(), nested);
    x.find(outer);
    check.equal("those that are GENERAL around do not count", x.general(nested), 1);
    check.equal("outer", x.general(outer), 1);
    check.equal("each one new", typeOf(x, outer), text(3, 4, 100, 4, 101));
  }

  static void unlikeTypes() {
    TypeScribe x = new TypeScribe();
    check.promise(32);
    check.equal("ahead of all", x.unlike(false, 0), -1);
    int f = x.fun(0, x.fun(1, x.two(4, x.two(8, x.name(1), x.name(0)), x.name(0))));
    x.find(f);
    unlikes("through both, the left first", x, row(3, 100, 101), row(2, 101, 102));
    check.equal("no place", x.unlike(false, 3), -1);
    check.equal("no place", x.unlike(true, -1), -1);
    x.clear();
    // inside, a VARIABLE is found out before it FAILS; it is told as it was
    int l = x.fun(0, x.two(19, x.two(8, x.name(0), x.number()), x.two(8, x.truth(), x.truth())));
    x.find(l);
    unlikes("as they were ahead of that, as a whole", x, row(3, 100, 0), row(3, 1, 1));
    x.clear();
    int r = x.fun(0, x.at(false, 3, x.two(4, x.fun(1, x.bare()), x.at(false, 1, x.name(0)))));
    x.find(r);
    unlikes("records", x, row(5, 7), row(5, 13, 100, 101));
    x.find(x.number());
    check.equal("found", x.unlike(false, 0), -1);
    x.clear();
    int rows = x.two(19, x.with(1, x.number(), x.with(0, x.truth(), x.bare())),
        x.with(0, x.number(), x.bare()));
    x.find(rows);
    unlikes("by labels", x, row(5, 10, 1, 11, 0, 7), row(5, 10, 0, 7));
    x.clear();
    // a ROW that would grow is told as it was
    int grows = x.fun(0, x.two(19, x.two(8, x.with(0, x.number(), x.bare()), x.number()),
        x.two(8, x.written(x.name(0), tell(x, 5, 30)), x.truth())));
    x.find(grows);
    unlikes("rows", x, row(3, 5, 10, 0, 7, 0), row(3, 5, 100, 1));
  }

  static void variables() {
    TypeScribe x = new TypeScribe();
    check.promise(33);
    int f = x.fun(0, x.fun(1, x.at(false, 2, x.name(0))));
    x.find(f);
    check.equal("TYPES and ROWS", x.variables(), 3);
    x.find(x.number());
    check.equal("none", x.variables(), 0);
    x.find(x.name(0));
    check.equal("failed", x.variables(), -1);
  }

  // ---- comparing

  static void compares() {
    TypeScribe x = new TypeScribe();
    check.promise(34);
    int id = x.fun(0, x.name(0));
    int id2 = x.fun(1, x.name(1));
    int first = x.fun(0, x.fun(1, x.name(0)));
    int number = x.number();
    int inc = x.fun(0, x.two(18, x.name(0), x.number()));
    int unknown = x.name(5);
    check.equal("the same", x.compare(id, id2), 0);
    check.equal("itself", x.compare(id, id), 0);
    check.equal("the other comes of the one", x.compare(id, inc), 1);
    check.equal("the one comes of the other", x.compare(inc, id), 2);
    check.equal("neither", x.compare(id, number), 4);
    check.equal("not found", x.compare(unknown, id), -1);
    check.equal("not found", x.compare(id, unknown), -1);
    check.equal("id and first", x.compare(id, first), 3 + 1);
    check.fails("none", INDEX, () -> x.compare(40, id));
    check.fails("none", INDEX, () -> x.compare(id, -1));
    int pairs = x.fun(0, x.two(8, x.name(0), x.number()));
    int others = x.fun(0, x.two(8, x.number(), x.number()));
    check.equal("puts in place", x.compare(pairs, others), 4 - 1);
    x.clear();
    int large = chain(x, 17);
    int small = x.number();
    check.fails("a SIZE", STATE, () -> x.compare(small, large));
    check.fails("a SIZE", STATE, () -> x.compare(large, small));
    check.fails("none first", INDEX, () -> x.compare(large, 40));
    x.clear();
    int open = x.fun(0, x.at(false, 1, x.name(0)));
    int more = x.fun(0, x.two(18, x.at(false, 1, x.name(0)), x.at(false, 0, x.name(0))));
    check.equal("a ROW in place of a VARIABLE", x.compare(open, more), 1);
    check.equal("and back", x.compare(more, open), 2);
    check.equal("nothing is changed", x.result(), -1);
    x.clear();
    int ab = x.with(0, x.number(), x.with(1, x.truth(), x.bare()));
    int ba = x.with(1, x.truth(), x.with(0, x.number(), x.bare()));
    check.equal("the order of labels does not matter", x.compare(ab, ba), 0);
    x.clear();
    int aa = x.with(0, x.number(), x.with(0, x.truth(), x.bare()));
    int bb = x.with(0, x.truth(), x.with(0, x.number(), x.bare()));
    check.equal("that of the same label does", x.compare(aa, bb), 4);
  }

  static void canBes() {
    TypeScribe x = new TypeScribe();
    check.promise(35);
    int id = x.fun(0, x.name(0));
    int unknown = x.name(1);
    int ok = tell(x, 2, 4, 0, 4, 0);
    int no = tell(x, 2, 0, 1);
    int same = tell(x, 2, 20, 20);
    int wide = tell(x, 2, 20, 21);
    int row = tell(x, 7);
    check.equal("comes of it", x.canBe(id, ok), true);
    check.equal("does not", x.canBe(id, no), false);
    check.equal("VARIABLES", x.canBe(id, same), true);
    check.equal("VARIABLES that differ", x.canBe(id, wide), false);
    check.equal("not found", x.canBe(unknown, ok), false);
    check.equal("used", x.canBe(id, 0), false);
    check.fails("none", INDEX, () -> x.canBe(40, ok));
    check.fails("none", INDEX, () -> x.canBe(id, 40));
    check.fails("none", INDEX, () -> x.canBe(id, -1));
    check.fails("a ROW", ARGUMENT, () -> x.canBe(id, row));
    x.clear();
    int large = chain(x, 17);
    int t = tell(x, 0);
    int r = tell(x, 30);
    check.fails("SIZE", STATE, () -> x.canBe(large, t));
    check.fails("a ROW first", ARGUMENT, () -> x.canBe(large, r));
    x.clear();
    int at = x.fun(0, x.at(false, 1, x.name(0)));
    int fits = tell(x, 2, 5, 10, 0, 11, 1, 7, 1);
    int open = tell(x, 2, 5, 11, 20, 31, 20);
    int closed = tell(x, 2, 5, 10, 0, 30, 0);
    check.equal("records", x.canBe(at, fits), true);
    check.equal("an open ROW", x.canBe(at, open), true);
    check.equal("the label is not there", x.canBe(at, closed), false);
    check.equal("types is as it was", x.types(), closed + 1);
    check.equal("they are not used", x.written(at, fits), at + 1);
  }

  static void wouldBes() {
    TypeScribe x = new TypeScribe();
    check.promise(36);
    int v = x.name(0);
    int p = x.two(8, v, x.number());
    int f = x.fun(0, p);
    int truth = tell(x, 1);
    int open = tell(x, 2, 20, 21);
    int row = tell(x, 7);
    check.equal("written at a NAME", x.wouldBe(f, v, truth), 0);
    check.equal("written at a NUMBER", x.wouldBe(f, v + 1, truth), 1);
    check.equal("written at itself", x.wouldBe(f, f, open), 0);
    check.equal("used", x.wouldBe(f, v, 1), 0);
    check.equal("unknown", x.wouldBe(v, v, truth), 3);
    check.fails("none", INDEX, () -> x.wouldBe(40, v, truth));
    check.fails("none", INDEX, () -> x.wouldBe(f, v, 40));
    check.fails("none", INDEX, () -> x.wouldBe(f, 40, truth));
    check.fails("not in it", ARGUMENT, () -> x.wouldBe(p, f, truth));
    check.fails("not in it", ARGUMENT, () -> x.wouldBe(v, v + 1, truth));
    check.fails("a ROW", ARGUMENT, () -> x.wouldBe(f, v, row));
    check.equal("nothing is changed", x.result(), -1);
    check.equal("nothing is built", x.nodes(), 4);
    x.clear();
    int node = chain(x, 16);
    int t = tell(x, 0);
    int twice = tell(x, 2, 20, 20);
    check.equal("SIZE 16", x.wouldBe(node, 0, t), 0);
    check.equal("SIZE 16", x.wouldBe(node, node, twice), 0);
    check.equal("SIZE 16", x.wouldBe(node, node, t), 1);
    int above = x.fun(0, node);
    check.fails("SIZE 17", STATE, () -> x.wouldBe(above, 0, t));
    x.clear();
    int endless = tell(x, 2, 20, 4, 20);
    int g = x.fun(0, x.name(0));
    check.equal("endless", x.wouldBe(g, g, endless), 2);
  }

  static void culprits() {
    TypeScribe x = new TypeScribe();
    check.promise(37);
    check.fails("none", INDEX, () -> x.culprit(0));
    int number = x.number();
    check.equal("found as it is", x.culprit(number), -1);
    int truth = x.truth();
    int plus = x.two(18, number, truth);
    check.equal("the truth", x.culprit(plus), truth);
    int same = x.two(19, x.number(), x.truth());
    check.equal("of several the smallest number", x.culprit(same), same - 2);
    int twice = x.two(8, x.two(18, x.truth(), x.number()), x.two(18, x.truth(), x.number()));
    check.equal("all of it", x.culprit(twice), twice);
    int one = x.two(8, x.number(), x.two(18, x.truth(), x.truth()));
    check.equal("the smallest SIZE", x.culprit(one), one - 1);
    check.equal("nothing is changed", x.result(), -1);
    check.fails("none", INDEX, () -> x.culprit(-1));
    x.clear();
    int large = x.fun(0, chain(x, 16));
    check.fails("SIZE", STATE, () -> x.culprit(large));
    x.clear();
    int late = x.two(18, x.number(), x.number());
    int bad = x.two(8, late, x.name(3));
    check.equal("unknown", x.culprit(bad), bad - 1);
    x.clear();
    int wrong = x.two(18, x.truth(), x.half(false, x.two(8, x.truth(), x.truth())));
    check.equal("both PARTS are wrong", x.culprit(wrong), wrong);
    int two = x.two(18, x.half(false, x.two(8, x.truth(), x.truth())), x.number());
    check.equal("the one beneath the first", x.culprit(two), two - 5);
    int scope = x.fun(0, x.two(18, x.half(false, x.name(0)), x.two(4, x.name(0), x.number())));
    check.equal("a name that is a pair and a function", x.culprit(scope), scope - 6);
  }

  static void digests() {
    check.promise(39);
    TypeScribe x = new TypeScribe();
    check.equal("new", x.digest(), digest(x));
    int let = x.let(false, 1, x.fun(0, x.name(0)), x.two(8, x.name(1), x.name(1)));
    tell(x, 5, 10, 0, 7);
    check.equal("built", x.digest(), digest(x));
    x.find(let);
    check.equal("found", x.digest(), digest(x));
    int fails = x.two(4, x.fun(0, x.two(18, x.name(0), x.number())), x.empty());
    x.find(fails);
    check.equal("failed", x.digest(), digest(x));
    x.clear();
    check.equal("cleared", x.digest(), digest(x));
  }

  static long digest(TypeScribe x) {
    long d = 58045;
    d = d * 31 + x.nodes();
    d = d * 31 + x.types();
    for (int i = 0; i < x.nodes(); i++) {
      d = d * 31 + x.codeOf(i);
      d = d * 31 + x.size(i);
      d = d * 31 + x.above(i);
      d = d * 31 + x.loose(i);
    }
    d = d * 31 + x.result();
    d = d * 31 + x.where();
    d = d * 31 + x.variables();
    for (int i = 0; i < 40; i++) {
      d = d * 31 + x.typeSize(i);
      d = d * 31 + x.general(i);
      for (int k = 0; k < x.typeSize(i); k++) d = d * 31 + x.typeAt(i, k);
    }
    for (int side = 0; side < 2; side++) {
      for (int k = 0; x.unlike(side == 1, k) != -1; k++) d = d * 31 + x.unlike(side == 1, k);
    }
    return d;
  }

  public static void main(String[] args) {
    newObject();
    leaves();
    fullOfNodes();
    functions();
    lets();
    recursionOfRec();
    chooses();
    twos();
    halves();
    unlinks();
    records();
    rowsThatAreEndless();
    writtens();
    clears();
    types();
    assumes();
    assumedLimits();
    looks();
    finds();
    places();
    generals();
    unlikeTypes();
    variables();
    compares();
    canBes();
    wouldBes();
    culprits();
    digests();
    check.end("PromiseTest");
  }
}
