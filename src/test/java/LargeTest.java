/** TYPES at the limit, far beyond it, and very deep ones; long runs on one object. */
public final class LargeTest {
  private static final Check check = new Check();

  /** A PAIR of a name twice, which stands for a TYPE of some codes: 2n + 1. */
  static int twice(TypeScribe x, int name) {
    return x.two(8, x.name(name), x.name(name));
  }

  /** 1 + a + 1 + b + c codes, of three names. */
  static int three(TypeScribe x, int a, int b, int c) {
    return x.two(8, x.name(a), x.two(8, x.name(b), x.name(c)));
  }

  static void limit() {
    check.promise(26);
    TypeScribe x = new TypeScribe();
    x.assume(1, PromiseTest.tell(x, 4, 4, 4, 4, 4, 4, 4, 4, 4, 4, 4, 0));
    x.assume(2, PromiseTest.tell(x, 4, 4, 4, 4, 4, 4, 4, 4, 4, 0));
    x.clear();
    // 36 codes, 73, 147 codes; 2 more for FUN, 1 more for LINK
    int base = three(x, 1, 1, 2);
    int top = x.two(12, x.fun(0, twice(x, 4)), x.empty());
    int inner = x.let(false, 4, twice(x, 3), top);
    int all = x.let(false, 3, base, inner);
    check.equal("SIZE", x.size(all), 16);
    check.equal("150 codes", x.find(all), 0);
    check.equal("150 codes", x.typeSize(all), 150);
    check.equal("36 codes", x.typeSize(base), 36);
    x.clear();
    base = three(x, 1, 1, 2);
    int f = x.fun(0, x.fun(0, twice(x, 4)));
    all = x.let(false, 3, base, x.let(false, 4, twice(x, 3), f));
    check.equal("151 codes", x.find(all), 4);
    check.equal("at the innermost NODE", x.where(), f);
    check.equal("no unlikes", x.unlike(false, 0), -1);
    check.equal("the culprit", x.culprit(all), 0);
    int t = PromiseTest.tell(x, 20);
    check.promise(36);
    check.equal("wouldBe", x.wouldBe(all, 0, t), 4);
    x.clear();
    x.assume(5, PromiseTest.tell(x, 20));
    int name = x.name(5);
    int growing = PromiseTest.tell(x, 2, 3, 20, 20, 20);
    check.equal("what is written is counted too", x.wouldBe(name, name, growing), 0);
  }

  /** What is WRITTEN makes a TYPE too large that was not, at the NODE WRITTEN. */
  static void writtenTooLarge() {
    check.promise(36);
    TypeScribe x = new TypeScribe();
    x.assume(0, PromiseTest.tell(x, 20));
    x.clear();
    // six times the same VARIABLE, then a TYPE of 31 codes for it
    int fun = x.fun(1, x.two(8, three(x, 1, 1, 1), three(x, 1, 1, 1)));
    check.equal("found", x.find(fun), 0);
    int[] codes = new int[33];
    codes[0] = 2;
    for (int i = 1; i < 31; i++) codes[i] = 4;
    codes[31] = 0;
    codes[32] = 20;
    int t = PromiseTest.tell(x, codes);
    check.equal("too large once it is WRITTEN", x.wouldBe(fun, fun, t), 4);
    int w = x.written(fun, t);
    check.equal("WRITTEN", x.find(w), 4);
    check.equal("WRITTEN", x.where(), w);
  }

  /** Parts may have far more than 150 codes in the end. */
  static void manyCodes() {
    check.promise(29);
    TypeScribe x = new TypeScribe();
    x.assume(0, PromiseTest.tell(x, 20));
    x.clear();
    int chain = PromiseTest.tell(x, 2, 2, 24, 25, 2, 2, 23, 24, 2, 2, 22, 23, 2, 2, 21, 22, 2, 2, 20, 21, 0);
    int grow = PromiseTest.tell(x, 2, 20, 3, 3, 3, 20, 20, 3, 20, 20, 3, 3, 20, 20, 3, 20, 3, 20, 20);
    int value = x.written(x.name(0), grow);
    int call = x.written(x.name(0), chain);
    int first = call;
    for (int i = 0; i < 5; i++) call = x.two(4, call, x.name(1));
    int all = x.let(false, 1, value, call);
    check.equal("found", x.find(all), 0);
    check.equal("codes", x.typeSize(all), 1);
    // of k VARIABLES in the end: 2k - 1 codes; the chain tells 1, 9, 9 * 9, .. of them
    long due = 1 + 5;
    for (long k = 1, i = 0; i < 5; i++, k *= 9) due += 2 * k - 1 + 9 * 2 * k - 1 + 1;
    check.equal("codes of the chain", (long) x.typeSize(first), due);
    check.equal("first code", x.typeAt(first, 0), 2);
    check.equal("last code", x.typeAt(first, (int) due - 1), 0);
    check.equal("no place", x.typeAt(first, (int) due), -1);
    check.equal("mean", x.meanType() > 30000.0, true);
    check.promise(39);
    check.equal("digest", x.digest(), PromiseTest.digest(x));
    x.find(value);
    check.equal("small again", x.typeSize(value), 19);
  }

  /** More cells than the store has at first: each NAME is a copy of 73 codes. */
  static void manyCells() {
    check.promise(26);
    TypeScribe x = new TypeScribe();
    x.assume(0, PromiseTest.tell(x, 20));
    x.clear();
    int t = PromiseTest.tell(x, 3, 2, 20, 2, 21, 2, 22, 2, 23, 2, 24, 2, 25, 2, 20, 20,
        2, 5, 10, 20, 11, 21, 12, 22, 30, 2, 21, 2, 22, 2, 23, 2, 24, 2, 25, 25);
    int base = x.written(x.name(0), t);
    int one = x.two(19, x.name(4), x.name(4));
    int other = x.two(19, x.name(4), x.name(4));
    int body = x.two(8, one, other);
    int inner = x.let(false, 4, twice(x, 3), body);
    int all = x.let(false, 3, base, inner);
    check.equal("found", x.find(all), 0);
    check.equal("base", x.typeSize(base), 36);
    check.equal("general", x.general(all), 7);
    check.equal("general", x.general(inner), 14);
    check.equal("a NAME", x.typeSize(one - 1), 73);
    check.equal("the same VARIABLES", x.typeAt(one - 1, 72), x.typeAt(other - 2, 72));
    check.equal("last VARIABLE", x.typeAt(one - 1, 72), 112);
    check.equal("compare", x.compare(one - 1, one - 1), -1);
    check.equal("culprit", x.culprit(all), -1);
    check.equal("digest", x.digest(), PromiseTest.digest(x));
  }

  static void deep() {
    check.promise(26);
    TypeScribe x = new TypeScribe();
    int[] codes = new int[40];
    for (int i = 0; i < 39; i++) codes[i] = 4;
    codes[39] = 20;
    int t = PromiseTest.tell(x, codes);
    int e = x.empty();
    int w = x.written(e, t);
    check.equal("found", x.find(w), 0);
    check.equal("codes", x.typeSize(e), 40);
    check.equal("canBe", x.canBe(e, t), true);
    check.equal("compare", x.compare(w, x.empty()), 2);
    check.equal("would be endless or not", x.wouldBe(w, e, t), 0);
  }

  /** 512 calls of the dearest kind. */
  static void manyCalls() {
    check.promise(37);
    TypeScribe x = new TypeScribe();
    int node = x.two(18, x.truth(), x.truth());
    for (int i = 0; i < 13; i++) node = x.fun(i % 8, node);
    for (int i = 0; i < 480; i++) {
      check.equal("culprit", x.culprit(node), 2);
    }
  }

  public static void main(String[] args) {
    limit();
    writtenTooLarge();
    manyCodes();
    manyCells();
    deep();
    manyCalls();
    check.end("LargeTest");
  }
}
