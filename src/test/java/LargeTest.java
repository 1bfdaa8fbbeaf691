import java.util.HashMap;
import java.util.Map;

/** TYPES at the limit, far beyond it, and very deep ones; long runs on one object. */
public final class LargeTest {
  private static final Check check = new Check();

  /** A PAIR of a name twice, which stands for a TYPE of some codes: 2n + 1. */
  static int twice(TypeScribe x, int name) {
    return x.two(8, x.name(name), x.name(name));
  }

  /** 1 + a + 1 + b + c codes, of three names. */
  static int three(TypeScribe x, int a, int b, int c) {
    return x.two(8, x.name(a), x.two(8, x.name(b), x.name(c)));
  }

  static void limit() {
    check.promise(26);
    TypeScribe x = new TypeScribe();
    x.assume(1, PromiseTest.tell(x, 4, 4, 4, 4, 4, 4, 4, 4, 4, 4, 4, 0));
    x.assume(2, PromiseTest.tell(x, 4, 4, 4, 4, 4, 4, 4, 4, 4, 0));
    x.clear();
    // 36 codes, 73, 147 codes; 2 more for FUN, 1 more for LINK
    int base = three(x, 1, 1, 2);
    int top = x.two(12, x.fun(0, twice(x, 4)), x.empty());
    int inner = x.let(false, 4, twice(x, 3), top);
    int all = x.let(false, 3, base, inner);
    check.equal("SIZE", x.size(all), 16);
    check.equal("150 codes", x.find(all), 0);
    check.equal("150 codes", x.typeSize(all), 150);
    check.equal("36 codes", x.typeSize(base), 36);
    x.clear();
    base = three(x, 1, 1, 2);
    int f = x.fun(0, x.fun(0, twice(x, 4)));
    all = x.let(false, 3, base, x.let(false, 4, twice(x, 3), f));
    check.equal("151 codes", x.find(all), 4);
    check.equal("at the innermost NODE", x.where(), f);
    check.equal("no unlikes", x.unlike(false, 0), -1);
    check.equal("the culprit", x.culprit(all), 0);
    int t = PromiseTest.tell(x, 20);
    check.promise(36);
    check.equal("wouldBe", x.wouldBe(all, 0, t), 4);
    x.clear();
    x.assume(5, PromiseTest.tell(x, 20));
    int name = x.name(5);
    int growing = PromiseTest.tell(x, 2, 3, 20, 20, 20);
    check.equal("what is written is counted too", x.wouldBe(name, name, growing), 0);
  }

  /** What is WRITTEN makes a TYPE too large that was not, at the NODE WRITTEN. */
  static void writtenTooLarge() {
    check.promise(36);
    TypeScribe x = new TypeScribe();
    x.assume(0, PromiseTest.tell(x, 20));
    x.clear();
    // six times the same VARIABLE, then a TYPE of 31 codes for it
    int fun = x.fun(1, x.two(8, three(x, 1, 1, 1), three(x, 1, 1, 1)));
    check.equal("found", x.find(fun), 0);
    int[] codes = new int[33];
    codes[0] = 2;
    for (int i = 1; i < 31; i++) codes[i] = 4;
    codes[31] = 0;
    codes[32] = 20;
    int t = PromiseTest.tell(x, codes);
    check.equal("too large once it is WRITTEN", x.wouldBe(fun, fun, t), 4);
    int w = x.written(fun, t);
    check.equal("WRITTEN", x.find(w), 4);
    check.equal("WRITTEN", x.where(), w);
  }

  /** Parts may have far more than 150 codes in the end. */
  static void manyCodes() {
    check.promise(29);
    TypeScribe x = new TypeScribe();
    x.assume(0, PromiseTest.tell(x, 20));
    x.clear();
    int chain = PromiseTest.tell(x, 2, 2, 24, 25, 2, 2, 23, 24, 2, 2, 22, 23, 2, 2, 21, 22, 2, 2, 20, 21, 0);
    int grow = PromiseTest.tell(x, 2, 20, 3, 3, 3, 20, 20, 3, 20, 20, 3, 3, 20, 20, 3, 20, 3, 20, 20);
    int value = x.written(x.name(0), grow);
    int call = x.written(x.name(0), chain);
    int first = call;
    for (int i = 0; i < 5; i++) call = x.two(4, call, x.name(1));
    int all = x.let(false, 1, value, call);
    check.equal("found", x.find(all), 0);
    check.equal("codes", x.typeSize(all), 1);
    // of k VARIABLES in the end: 2k - 1 codes; the chain tells 1, 9, 9 * 9, .. of them
    long due = 1 + 5;
    for (long k = 1, i = 0; i < 5; i++, k *= 9) due += 2 * k - 1 + 9 * 2 * k - 1 + 1;
    check.equal("codes of the chain", (long) x.typeSize(first), due);
    check.equal("first code", x.typeAt(first, 0), 2);
    check.equal("last code", x.typeAt(first, (int) due - 1), 0);
    check.equal("no place", x.typeAt(first, (int) due), -1);
    check.equal("mean", x.meanType() > 30000.0, true);
    check.promise(39);
    check.equal("digest", x.digest(), PromiseTest.digest(x));
    x.find(value);
    check.equal("small again", x.typeSize(value), 19);
  }

  // ---- more codes than can be written out

  /** A TYPE of which parts are shared; a VARIABLE is a Tree of its own. */
  static final class Tree {
    final int code;
    final Tree one, other;
    final long codes;

    Tree(int code, Tree one, Tree other) {
      this.code = code;
      this.one = one;
      this.other = other;
      codes = 1 + (one == null ? 0 : one.codes) + (other == null ? 0 : other.codes);
    }

    static Tree variable() {
      return new Tree(100, null, null);
    }

    static Tree pair(Tree one, Tree other) {
      return new Tree(3, one, other);
    }

    /** PAIRS over so many times the same. */
    static Tree power(int times, Tree of) {
      return times == 1 ? of : pair(of, power(times - 1, of));
    }
  }

  /** Numbers for the VARIABLES of a Tree, and what its codes do to a checksum. */
  static final class Checksum {
    final Map<Tree, Integer> numbers = new HashMap<>();
    final Map<Tree, long[]> wholes = new HashMap<>();

    /** A checksum d becomes d * [0] + [1] by the first codes of a Tree. */
    long[] of(Tree t, long most) {
      if (most <= 0) return new long[] {1, 0};
      boolean whole = most >= t.codes;
      if (whole && wholes.containsKey(t)) return wholes.get(t);
      if (t.code == 100) numbers.putIfAbsent(t, numbers.size());
      long[] sum = {31, t.code == 100 ? 100 + numbers.get(t) : t.code};
      long left = most - 1;
      if (t.one != null) {
        sum = then(sum, of(t.one, left));
        left -= t.one.codes;
      }
      if (t.other != null) sum = then(sum, of(t.other, left));
      if (whole) wholes.put(t, sum);
      return sum;
    }

    static long[] then(long[] a, long[] b) {
      return new long[] {a[0] * b[0], a[1] * b[0] + b[1]};
    }

    int codeAt(Tree t, long place) {
      of(t, Long.MAX_VALUE);
      if (place == 0) return t.code == 100 ? 100 + numbers.get(t) : t.code;
      if (place <= t.one.codes) return codeAt(t.one, place - 1);
      return codeAt(t.other, place - 1 - t.one.codes);
    }
  }

  private static int at(int[] into, int from, int... codes) {
    System.arraycopy(codes, 0, into, from, codes.length);
    return from + codes.length;
  }

  private static int power(int[] into, int from, int times, int variable) {
    int end = from;
    for (int i = 1; i < times; i++) end = at(into, end, 3, variable);
    return at(into, end, variable);
  }

  /** FUNCTION of a^k and (a, b^l) and (b, c^m), to c and (d, d) and (e, e). */
  static int tower(TypeScribe x, int k, int l, int m) {
    int[] codes = new int[64];
    int end = power(codes, at(codes, 0, 2, 3), k, 20);
    end = power(codes, at(codes, end, 3, 3, 20), l, 21);
    end = power(codes, at(codes, end, 3, 21), m, 22);
    at(codes, end, 3, 22, 3, 3, 23, 23, 3, 24, 24);
    return PromiseTest.tell(x, codes);
  }

  static Tree argument(Tree[] v, int k, int l, int m) {
    Tree two = Tree.pair(v[1], Tree.power(m, v[2]));
    return Tree.pair(Tree.power(k, v[0]), Tree.pair(Tree.pair(v[0], Tree.power(l, v[1])), two));
  }

  static Tree answer(Tree[] v) {
    return Tree.pair(v[2], Tree.pair(Tree.pair(v[3], v[3]), Tree.pair(v[4], v[4])));
  }

  /** Calls of a tower above one another: each one makes k * l * m times as much of what was. */
  static void towers(int k, int l, int m, int calls) {
    TypeScribe x = new TypeScribe();
    x.assume(0, PromiseTest.tell(x, 20));
    x.clear();
    int value = x.written(x.name(0), tower(x, k, l, m));
    int first = x.name(0);
    int call = first;
    for (int i = 0; i < calls; i++) call = x.two(4, x.name(1), call);
    int all = x.let(false, 1, value, call);
    String what = "towers " + k + " " + l + " " + m + ", " + calls + ": ";
    check.promise(26);
    check.equal(what + "find", x.find(all), 0);
    // from the last one to the first one, for what its VARIABLES are
    Tree[][] v = new Tree[calls + 1][5];
    for (int i = 0; i < 5; i++) v[0][i] = Tree.variable();
    for (int i = calls; i >= 1; i--) {
      for (int j = 0; j < 5; j++) v[i][j] = Tree.variable();
      if (i < calls) {
        v[i][2] = Tree.power(k, v[i + 1][0]);
        v[i][3] = v[i + 1][0];
        v[i][4] = v[i + 1][1];
      }
      if (i > 1) {
        v[i][1] = Tree.power(m, v[i][2]);
        v[i][0] = Tree.power(l, v[i][1]);
      }
    }
    Tree[] due = new Tree[40];
    due[0] = new Tree(2, argument(v[0], k, l, m), answer(v[0]));
    due[1] = due[0];
    due[first] = argument(v[1], k, l, m);
    for (int i = 1; i <= calls; i++) {
      due[2 * i + 1] = new Tree(2, argument(v[i], k, l, m), answer(v[i]));
      due[2 * i + 2] = answer(v[i]);
    }
    due[all] = answer(v[calls]);
    compareWith(what, x, due, all);
  }

  /** All that the RESULT tells is as in these Trees. */
  static void compareWith(String what, TypeScribe x, Tree[] due, int root) {
    double sum = 0;
    long d = 58045;
    d = d * 31 + x.nodes();
    d = d * 31 + x.types();
    for (int n = 0; n < x.nodes(); n++) {
      d = (((d * 31 + x.codeOf(n)) * 31 + x.size(n)) * 31 + x.above(n)) * 31 + x.loose(n);
    }
    d = ((d * 31 + x.result()) * 31 + x.where()) * 31 + x.variables();
    for (int n = 0; n < 40; n++) {
      check.promise(30);
      int codes = due[n] == null ? 0 : (int) Math.min(Integer.MAX_VALUE, due[n].codes);
      check.equal(what + "codes of " + n, x.typeSize(n), codes);
      d = (d * 31 + codes) * 31 + x.general(n);
      if (due[n] == null) continue;
      sum += codes;
      Checksum whole = new Checksum();
      // an int counts 2^31 places, from 0
      long[] all = whole.of(due[n], 1L << 31);
      d = d * all[0] + all[1];
      check.promise(29);
      long step = 1 + codes / 13;
      for (long place = codes - 1; place >= 0; place -= step) {
        check.equal(what + "place " + place + " of " + n, x.typeAt(n, (int) place),
            whole.codeAt(due[n], place));
      }
      boolean more = due[n].codes > Integer.MAX_VALUE;
      check.equal(what + "the place behind, of " + n, x.typeAt(n, codes),
          more ? whole.codeAt(due[n], codes) : -1);
    }
    check.promise(38);
    check.equal(what + "mean", x.meanType(), sum / x.size(root));
    check.promise(39);
    check.equal(what + "digest", x.digest(), d);
    check.equal(what + "no culprit", x.culprit(root), -1);
    check.equal(what + "digest again", x.digest(), d);
  }

  static void manyMoreCodes() {
    towers(2, 2, 2, 1);
    towers(2, 2, 2, 3);
    towers(2, 3, 2, 4);
    towers(3, 3, 3, 6);
    towers(4, 4, 5, 5);
    // more codes than an int counts
    towers(4, 4, 5, 6);
    towers(5, 4, 4, 6);
  }

  /** TYPES of many codes that are MADE ONE after they were found in two ways. */
  static void manyCodesAreMadeOne() {
    check.promise(26);
    TypeScribe x = new TypeScribe();
    x.assume(0, PromiseTest.tell(x, 20));
    x.assume(2, PromiseTest.tell(x, 2, 3, 20, 3, 20, 3, 20, 3, 20, 20, 20));
    x.clear();
    int one = x.name(0), other = x.name(0);
    int left = x.name(3), right = x.name(4);
    int first = x.two(4, x.name(2), x.two(4, x.name(2), one));
    int second = x.two(4, x.name(2), x.two(4, x.name(2), other));
    int same = x.two(19, first, second);
    check.equal("two ways to the same", x.find(same), 0);
    check.equal("25 times", x.typeSize(one), 49);
    check.equal("25 times", x.typeSize(other), 49);
    check.equal("not in it", x.typeSize(left) + x.typeSize(right), 0);
    x.clear();
    // three calls of what takes fourteen times the same, and one, are MADE ONE
    int[] codes = new int[29];
    codes[0] = 2;
    for (int i = 0; i < 13; i++) {
      codes[2 * i + 1] = 3;
      codes[2 * i + 2] = 20;
    }
    codes[27] = 20;
    codes[28] = 20;
    int value = x.written(x.name(0), PromiseTest.tell(x, codes));
    int inner = x.name(0);
    int p = x.two(4, x.name(1), x.two(4, x.name(1), x.two(4, x.name(1), inner)));
    int q = x.name(0);
    int body = x.two(19, x.two(4, x.name(1), q), p);
    int all = x.let(false, 1, value, body);
    check.equal("SIZE", x.size(all), 14);
    check.equal("find", x.find(all), 0);
    check.promise(30);
    check.equal("14^3", x.typeSize(inner), 2 * 14 * 14 * 14 - 1);
    check.equal("14", x.typeSize(q), 27);
  }

  /** unlike() of a TYPE with very many codes. */
  static void manyCodesOfUnlike() {
    TypeScribe x = new TypeScribe();
    x.assume(0, PromiseTest.tell(x, 20));
    x.clear();
    int value = x.written(x.name(0), PromiseTest.tell(x,
        2, 3, 20, 3, 20, 3, 20, 3, 20, 3, 20, 3, 20, 3, 20, 3, 20, 3, 20, 20, 20));
    int call = x.name(3);
    for (int i = 0; i < 4; i++) call = x.two(4, x.name(1), call);
    int all = x.let(false, 1, value, x.fun(3, x.two(4, x.name(3), call)));
    check.promise(26);
    check.equal("SIZE", x.size(all), 15);
    check.equal("a PAIR is no FUNCTION", x.find(all), 1);
    check.promise(32);
    long codes = 2 * 10000 - 1;
    check.equal("left, the last place", x.unlike(false, (int) codes - 1), 100);
    check.equal("left, behind it", x.unlike(false, (int) codes), -1);
    check.equal("left, the first place", x.unlike(false, 0), 3);
    check.equal("right", x.unlike(true, 0), 2);
    check.equal("right, through both", x.unlike(true, 1), 100);
    check.equal("right, through both", x.unlike(true, 2), 101);
    check.equal("right, behind it", x.unlike(true, 3), -1);
    check.promise(39);
    check.equal("digest", x.digest(), PromiseTest.digest(x));
  }

  /** More cells than the store has at first: each NAME is a copy of 73 codes. */
  static void manyCells() {
    check.promise(26);
    TypeScribe x = new TypeScribe();
    x.assume(0, PromiseTest.tell(x, 20));
    x.clear();
    int t = PromiseTest.tell(x, 3, 2, 20, 2, 21, 2, 22, 2, 23, 2, 24, 2, 25, 2, 20, 20,
        2, 5, 10, 20, 11, 21, 12, 22, 30, 2, 21, 2, 22, 2, 23, 2, 24, 2, 25, 25);
    int base = x.written(x.name(0), t);
    int one = x.two(19, x.name(4), x.name(4));
    int other = x.two(19, x.name(4), x.name(4));
    int body = x.two(8, one, other);
    int inner = x.let(false, 4, twice(x, 3), body);
    int all = x.let(false, 3, base, inner);
    check.equal("found", x.find(all), 0);
    check.equal("base", x.typeSize(base), 36);
    check.equal("general", x.general(all), 7);
    check.equal("general", x.general(inner), 14);
    check.equal("a NAME", x.typeSize(one - 1), 73);
    check.equal("the same VARIABLES", x.typeAt(one - 1, 72), x.typeAt(other - 2, 72));
    check.equal("last VARIABLE", x.typeAt(one - 1, 72), 112);
    check.equal("compare", x.compare(one - 1, one - 1), -1);
    check.equal("culprit", x.culprit(all), -1);
    check.equal("digest", x.digest(), PromiseTest.digest(x));
  }

  static void deep() {
    check.promise(26);
    TypeScribe x = new TypeScribe();
    int[] codes = new int[40];
    for (int i = 0; i < 39; i++) codes[i] = 4;
    codes[39] = 20;
    int t = PromiseTest.tell(x, codes);
    int e = x.empty();
    int w = x.written(e, t);
    check.equal("found", x.find(w), 0);
    check.equal("codes", x.typeSize(e), 40);
    check.equal("canBe", x.canBe(e, t), true);
    check.equal("compare", x.compare(w, x.empty()), 2);
    check.equal("would be endless or not", x.wouldBe(w, e, t), 0);
  }

  /** 512 calls of the dearest kind. */
  static void manyCalls() {
    check.promise(37);
    TypeScribe x = new TypeScribe();
    int node = x.two(18, x.truth(), x.truth());
    for (int i = 0; i < 13; i++) node = x.fun(i % 8, node);
    for (int i = 0; i < 480; i++) {
      check.equal("culprit", x.culprit(node), 2);
    }
  }

  /** The same with an expression that needs much room each time. */
  static void manyDearCalls() {
    check.promise(37);
    TypeScribe x = new TypeScribe();
    x.assume(0, PromiseTest.tell(x, 3, 20, 3, 21, 3, 22, 3, 23, 3, 24, 25));
    x.clear();
    int value = three(x, 0, 0, 0);
    int many = three(x, 1, 1, 1);
    int wrong = x.name(1);
    int body = x.two(8, many, x.two(19, wrong, x.number()));
    int all = x.let(false, 1, value, body);
    for (int i = 0; i < 440; i++) {
      check.equal("culprit", x.culprit(all), wrong);
      if (i % 4 == 0) check.equal("find", x.find(all), 1);
      if (i % 5 == 0) check.equal("compare", x.compare(value, value), 0);
    }
  }

  public static void main(String[] args) {
    limit();
    writtenTooLarge();
    manyCodes();
    manyMoreCodes();
    manyCodesAreMadeOne();
    manyCodesOfUnlike();
    manyCells();
    deep();
    manyCalls();
    manyDearCalls();
    check.end("LargeTest");
  }
}
