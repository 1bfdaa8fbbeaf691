import java.util.ArrayList;
import java.util.List;
import java.util.Random;

/** Long runs of calls by chance (always the same ones), each answer compared with the Oracle's. */
public final class FuzzTest {
  interface Call {
    Object go();
  }

  static Object answer(Call c) {
    try {
      return c.go();
    } catch (IndexOutOfBoundsException | IllegalArgumentException | IllegalStateException e) {
      // a subclass would be one that the machine throws
      return e.getClass().getName();
    }
  }

  static final class Run {
    final Random r;
    final TypeScribe x = new TypeScribe();
    final Oracle o = new Oracle();
    final List<String> log = new ArrayList<>();
    final int names;
    final int wild;
    int[] seen = new int[16];

    Run(long seed, int names, int wild) {
      r = new Random(seed);
      this.names = names;
      this.wild = wild;
    }

    Object both(String call, Call a, Call b) {
      Object got = answer(a), due = answer(b);
      log.add(call + " = " + got);
      if (!got.equals(due)) {
        for (String line : log) System.out.println("  " + line);
        System.out.println("due: " + due);
        throw new AssertionError(call);
      }
      return got;
    }

    int below(int n) {
      return r.nextInt(n);
    }

    int name() {
      return below(200) < wild ? below(12) - 2 : below(names);
    }

    int label() {
      return below(200) < wild ? below(8) - 2 : below(names > 4 ? 4 : names);
    }

    /** Mostly a NODE that is no PART yet and not too large. */
    int node() {
      if (below(200) < wild) return below(o.nodes.size() + 3) - 1;
      for (int i = 0; i < 40; i++) {
        int n = below(o.nodes.size() + 1);
        if (n < o.nodes.size() && o.nodes.get(n).above == null && o.nodes.get(n).size() < 15) return n;
      }
      return below(o.nodes.size() + 1);
    }

    int anyNode() {
      if (below(200) < wild) return below(46) - 3;
      if (below(3) > 0) return below(o.nodes.size() + 1);
      return node();
    }

    int told(boolean row) {
      if (below(200) < wild) return below(o.told.size() + 3) - 1;
      for (int i = 0; i < 40; i++) {
        int n = below(o.told.size() + 1);
        if (n < o.told.size() && !o.told.get(n).used && o.told.get(n).row() == row) return n;
      }
      return below(o.told.size() + 1);
    }

    int anyTold() {
      return below(o.told.size() + 1);
    }

    int path(int root) {
      if (root < 0 || root >= o.nodes.size() || below(200) < wild) return anyNode();
      List<Oracle.Node> all = o.nodes.get(root).all();
      return all.get(below(all.size())).number;
    }

    void leaf() {
      switch (below(9)) {
        case 0: both("number()", () -> x.number(), () -> o.build(0, -1, -1)); break;
        case 1: both("truth()", () -> x.truth(), () -> o.build(1, -1, -1)); break;
        case 2: both("empty()", () -> x.empty(), () -> o.build(11, -1, -1)); break;
        case 3: both("bare()", () -> x.bare(), () -> o.build(14, -1, -1)); break;
        default: {
          int n = name();
          both("name(" + n + ")", () -> x.name(n), () -> o.build(2, n, -1));
        }
      }
    }

    void build() {
      int a = node(), b = node(), c = node(), n = name(), m = name(), l = label();
      boolean f = r.nextBoolean();
      switch (below(16)) {
        case 0:
        case 1:
          both("fun(" + n + "," + a + ")", () -> x.fun(n, a), () -> o.build(3, n, -1, a));
          break;
        case 2:
        case 3:
          both("let(" + f + "," + n + "," + a + "," + b + ")", () -> x.let(f, n, a, b),
              () -> o.build(f ? 6 : 5, n, -1, a, b));
          break;
        case 4:
          both("choose(" + a + "," + b + "," + c + ")", () -> x.choose(a, b, c),
              () -> o.build(7, -1, -1, a, b, c));
          break;
        case 5:
          both("half(" + f + "," + a + ")", () -> x.half(f, a), () -> o.build(f ? 10 : 9, -1, -1, a));
          break;
        case 6:
          both("unlink(" + a + "," + b + "," + n + "," + m + "," + c + ")",
              () -> x.unlink(a, b, n, m, c), () -> o.build(13, n, m, a, b, c));
          break;
        case 7:
        case 8:
          both("with(" + l + "," + a + "," + b + ")", () -> x.with(l, a, b),
              () -> o.build(15, l, -1, a, b));
          break;
        case 9:
        case 10:
          both("at(" + f + "," + l + "," + a + ")", () -> x.at(f, l, a),
              () -> o.build(f ? 17 : 16, l, -1, a));
          break;
        case 11: {
          int t = told(false);
          both("written(" + a + "," + t + ")", () -> x.written(a, t), () -> o.written(a, t));
          break;
        }
        default: {
          int[] codes = {4, 4, 4, 8, 8, 12, 12, 18, 19, 19};
          int code = below(200) < wild ? below(24) - 1 : codes[below(10)];
          both("two(" + code + "," + a + "," + b + ")", () -> x.two(code, a, b),
              () -> o.two(code, a, b));
        }
      }
    }

    void tellType() {
      int code;
      if (below(200) < wild) {
        code = below(40) - 1;
      } else {
        int[] codes = {0, 1, 7, 2, 2, 3, 4, 5, 5, 10, 11, 12, 13, 10, 11, 20, 21, 22, 30, 31, 20, 30};
        code = codes[below(codes.length)];
      }
      boolean rowFirst = code == 5, rowSecond = code >= 10;
      int a = told(rowFirst), b = told(rowSecond);
      both("type(" + code + "," + a + "," + b + ")", () -> x.type(code, a, b),
          () -> o.type(code, a, b));
    }

    static final int[][] FLAVOURS = {
      {3, 4, 5, 6, 7, 8, 9, 10, 12, 13, 15, 16, 17, 18, 19, 20},
      {3, 3, 3, 4, 4, 5, 6, 7, 15, 15, 15, 16, 16, 17, 17, 17, 19, 19, 20},
      {3, 3, 4, 4, 4, 5, 5, 8, 8, 8, 19, 20},
      {3, 4, 5, 6, 7, 9, 10, 12, 12, 13, 13, 13, 18, 20},
      {3, 3, 8, 8, 13, 15, 15, 16, 17, 17, 19, 19, 7, 20, 20},
    };

    /** Builds a whole expression of at most so many NODES, whose NAMES mostly have something. */
    int expression(int budget, List<Integer> scope, int[] flavour) {
      int code = flavour[below(flavour.length)];
      int parts = code == 3 || code == 9 || code == 10 || code == 16 || code == 17 || code == 20 ? 1
          : code == 7 || code == 13 ? 3 : 2;
      if (budget <= parts || o.nodes.size() + budget > 40) return leafIn(scope);
      int[] sub = new int[3];
      int left = budget - 1;
      int n = name(), m = name(), l = label();
      for (int i = 0; i < parts; i++) {
        int share = i == parts - 1 ? left : 1 + below(Math.max(1, left - (parts - i)));
        List<Integer> inner = new ArrayList<>(scope);
        if (code == 3 || code == 6 || (code == 5 && i == 1) || (code == 13 && i == 2)) inner.add(n);
        if (code == 13 && i == 2) inner.add(m);
        if (code == 6 && i == 0 && below(3) == 0) inner.remove(inner.size() - 1);
        int before = o.nodes.size();
        sub[i] = expression(Math.max(1, share), inner, flavour);
        left -= o.nodes.size() - before;
      }
      int a = sub[0], b = sub[1], c = sub[2], k = code;
      String call = "node " + k + " " + n + " " + m + " " + l + " of " + a + "," + b + "," + c;
      switch (code) {
        case 3: both(call, () -> x.fun(n, a), () -> o.build(3, n, -1, a)); break;
        case 5:
        case 6: both(call, () -> x.let(k == 6, n, a, b), () -> o.build(k, n, -1, a, b)); break;
        case 7: both(call, () -> x.choose(a, b, c), () -> o.build(7, -1, -1, a, b, c)); break;
        case 9:
        case 10: both(call, () -> x.half(k == 10, a), () -> o.build(k, -1, -1, a)); break;
        case 13: both(call, () -> x.unlink(a, b, n, m, c), () -> o.build(13, n, m, a, b, c)); break;
        case 15: both(call, () -> x.with(l, a, b), () -> o.build(15, l, -1, a, b)); break;
        case 16:
        case 17: both(call, () -> x.at(k == 17, l, a), () -> o.build(k, l, -1, a)); break;
        case 20: {
          int t = told(false);
          both(call + " type " + t, () -> x.written(a, t), () -> o.written(a, t));
          break;
        }
        default: both(call, () -> x.two(k, a, b), () -> o.two(k, a, b));
      }
      return o.nodes.size() - 1;
    }

    /** Tells a TYPE that is written as a row of codes. */
    int tellRow(int[] codes, int[] at) {
      int code = codes[at[0]++];
      int beneath = code == 2 || code == 3 || (code >= 10 && code <= 13) ? 2
          : code == 4 || code == 5 ? 1 : 0;
      int a = beneath > 0 ? tellRow(codes, at) : -1;
      int b = beneath > 1 ? tellRow(codes, at) : -1;
      both("type(" + code + "," + a + "," + b + ")", () -> x.type(code, a, b),
          () -> o.type(code, a, b));
      return o.told.size() - 1;
    }

    static final int[][] GROWING = {
      {2, 20, 3, 3, 20, 20, 3, 20, 20},
      {2, 20, 3, 20, 20},
      {2, 20, 3, 20, 3, 3, 20, 20, 3, 20, 20},
      {2, 5, 30, 5, 10, 0, 11, 1, 10, 0, 30},
      {2, 5, 11, 20, 30, 5, 10, 4, 20, 11, 20, 30},
      {2, 2, 20, 21, 2, 2, 21, 22, 2, 20, 22},
      {3, 4, 4, 4, 0, 4, 4, 4, 4, 4, 1},
      {5, 11, 0, 10, 1, 13, 4, 20, 10, 0, 30},
      {3, 2, 20, 21, 2, 21, 22},
      {20},
    };

    void goGrowing(int rounds) {
      for (int i = 0; i < rounds; i++) {
        both("clear()", () -> x.clear(), () -> o.clear());
        List<Integer> scope = new ArrayList<>();
        for (int k = 0; k < 3; k++) {
          int n = 5 + k;
          int t = tellRow(GROWING[below(GROWING.length)], new int[1]);
          both("assume(" + n + "," + t + ")", () -> x.assume(n, t), () -> o.assume(n, t));
          scope.add(n);
          scope.add(n);
        }
        int[] flavour = below(2) == 0 ? new int[] {4, 4, 4, 4, 5, 8, 3, 19}
            : new int[] {4, 4, 8, 5, 15, 16, 17, 7, 13};
        int root = expression(12 + below(5), scope, flavour);
        Object c = both("find(" + root + ")", () -> x.find(root), () -> o.find(root));
        if (c instanceof Integer) seen[(Integer) c]++;
        both("digest()", () -> x.digest(), () -> o.digest());
        both("culprit(" + root + ")", () -> x.culprit(root), () -> o.culprit(root));
      }
    }

    /** Calls of functions that make what they are given larger, in a row. */
    void goTower(int rounds) {
      for (int i = 0; i < rounds; i++) {
        both("clear()", () -> x.clear(), () -> o.clear());
        for (int k = 0; k < 3; k++) {
          int n = 5 + k;
          int t = tellRow(GROWING[below(GROWING.length)], new int[1]);
          both("assume(" + n + "," + t + ")", () -> x.assume(n, t), () -> o.assume(n, t));
        }
        leaf();
        int calls = 1 + below(7);
        for (int k = 0; k < calls; k++) {
          int arg = o.nodes.size() - 1;
          int n = 5 + below(3);
          both("name(" + n + ")", () -> x.name(n), () -> o.build(2, n, -1));
          int f = o.nodes.size() - 1;
          int code = below(4) == 0 ? 8 : 4;
          both("two(" + code + "," + f + "," + arg + ")", () -> x.two(code, f, arg),
              () -> o.two(code, f, arg));
        }
        int root = o.nodes.size() - 1;
        Object c = both("find(" + root + ")", () -> x.find(root), () -> o.find(root));
        if (c instanceof Integer) seen[(Integer) c]++;
        both("digest()", () -> x.digest(), () -> o.digest());
        both("culprit(" + root + ")", () -> x.culprit(root), () -> o.culprit(root));
      }
    }

    // ---- pairs of TYPES that are like one another

    /** A TYPE or a ROW that is to be told. */
    static final class Sketch {
      int code;
      Sketch one, other;

      Sketch(int code, Sketch one, Sketch other) {
        this.code = code;
        this.one = one;
        this.other = other;
      }

      int size() {
        return 1 + (one == null ? 0 : one.size()) + (other == null ? 0 : other.size());
      }
    }

    Sketch sketch(int budget, int variables) {
      int k = budget < 3 ? below(6) : below(14);
      if (k < 1) return new Sketch(below(2), null, null);
      if (k < 6) return new Sketch(20 + below(variables), null, null);
      if (k < 7) return new Sketch(4, sketch(budget - 1, variables), null);
      if (k < 11) return new Sketch(5, sketchRow(budget - 1, variables), null);
      return new Sketch(2 + below(2), sketch(budget / 2, variables), sketch(budget / 2, variables));
    }

    Sketch sketchRow(int budget, int variables) {
      int k = below(8);
      if (budget < 3 || k < 2) {
        return new Sketch(below(3) == 0 ? 7 : 30 + below(variables), null, null);
      }
      int share = 1 + below(budget / 2);
      return new Sketch(10 + below(4), sketch(share, variables),
          sketchRow(budget - 1 - share, variables));
    }

    /** Much the same, with some of it in another order, or something else there. */
    Sketch altered(Sketch s, int variables) {
      boolean row = s.code == 7 || (s.code >= 10 && s.code <= 13) || s.code >= 30;
      int k = below(30);
      if (k == 0) return row ? sketchRow(4, variables) : sketch(4, variables);
      if (k < 4) return new Sketch((row ? 30 : 20) + below(variables), null, null);
      if (s.one == null) return s;
      if (s.other == null) return new Sketch(s.code, altered(s.one, variables), null);
      Sketch one = altered(s.one, variables), other = altered(s.other, variables);
      if (row && k < 14 && other.one != null) {
        return new Sketch(other.code, other.one, new Sketch(s.code, one, other.other));
      }
      if (row && k == 14) return other;
      return new Sketch(s.code, one, other);
    }

    int tellSketch(Sketch s) {
      int a = s.one == null ? -1 : tellSketch(s.one);
      int b = s.other == null ? -1 : tellSketch(s.other);
      both("type(" + s.code + "," + a + "," + b + ")", () -> x.type(s.code, a, b),
          () -> o.type(s.code, a, b));
      return o.told.size() - 1;
    }

    int writtenName(int name, int type) {
      both("name(" + name + ")", () -> x.name(name), () -> o.build(2, name, -1));
      int of = o.nodes.size() - 1;
      both("written(" + of + "," + type + ")", () -> x.written(of, type), () -> o.written(of, type));
      return of + 1;
    }

    void askBoth(int one, int other) {
      Object d = both("compare(" + one + "," + other + ")", () -> x.compare(one, other),
          () -> o.compare(one, other));
      if (d instanceof Integer) seen[6 + (Integer) d]++;
    }

    void findAndTell(int root) {
      Object c = both("find(" + root + ")", () -> x.find(root), () -> o.find(root));
      if (c instanceof Integer) seen[(Integer) c]++;
      both("digest()", () -> x.digest(), () -> o.digest());
      both("culprit(" + root + ")", () -> x.culprit(root), () -> o.culprit(root));
    }

    /** Two WRITTEN TYPES with VARIABLES of their own, or with the same ones. */
    void goPairs(int rounds) {
      for (int i = 0; i < rounds; i++) {
        both("clear()", () -> x.clear(), () -> o.clear());
        if (i == 0) {
          tellRow(new int[] {20}, new int[1]);
          both("assume(0,0)", () -> x.assume(0, 0), () -> o.assume(0, 0));
        }
        int variables = 1 + below(6);
        Sketch s = sketch(4 + below(20), variables), t = altered(s, variables);
        if (below(8) == 0) t = sketch(4 + below(14), variables);
        if (s.size() + t.size() > 38) continue;
        if (below(2) == 0) {
          int k = tellSketch(s), l = tellSketch(t);
          int one = writtenName(0, k), other = writtenName(0, l);
          askBoth(one, other);
          askBoth(other, one);
          both("canBe", () -> x.canBe(one, l), () -> o.canBe(one, l));
          both("canBe", () -> x.canBe(other, k), () -> o.canBe(other, k));
          both("wouldBe", () -> x.wouldBe(one, one, l), () -> o.wouldBe(one, one, l));
          both("same", () -> x.two(19, one, other), () -> o.two(19, one, other));
        } else {
          int w = writtenName(1, tellSketch(new Sketch(3, s, t)));
          both("first", () -> x.half(false, w), () -> o.build(9, -1, -1, w));
          both("name", () -> x.name(1), () -> o.build(2, 1, -1));
          both("second", () -> x.half(true, w + 2), () -> o.build(10, -1, -1, w + 2));
          both("same", () -> x.two(19, w + 1, w + 3), () -> o.two(19, w + 1, w + 3));
          both("fun", () -> x.fun(1, w + 4), () -> o.build(3, 1, -1, w + 4));
        }
        findAndTell(o.nodes.size() - 1);
      }
    }

    int leafIn(List<Integer> scope) {
      if (!scope.isEmpty() && below(4) > 0) {
        int n = scope.get(below(scope.size()));
        both("name(" + n + ")", () -> x.name(n), () -> o.build(2, n, -1));
      } else {
        leaf();
      }
      return o.nodes.size() - 1;
    }

    void goWhole(int rounds, int[] flavour) {
      for (int i = 0; i < rounds; i++) {
        if (below(4) == 0) {
          both("clear()", () -> x.clear(), () -> o.clear());
        }
        for (int k = below(20); k > 0; k--) tellType();
        if (below(3) == 0) {
          int n = name(), t = told(false);
          both("assume(" + n + "," + t + ")", () -> x.assume(n, t), () -> o.assume(n, t));
        }
        int root = expression(2 + below(15), new ArrayList<>(), flavour);
        Object c = both("find(" + root + ")", () -> x.find(root), () -> o.find(root));
        if (c instanceof Integer) seen[(Integer) c]++;
        both("digest()", () -> x.digest(), () -> o.digest());
        both("meanType()", () -> x.meanType(), () -> o.meanType());
        for (int k = below(3); k > 0; k--) ask();
        for (int k = 0; k < 3; k++) {
          int p = path(root), q = path(root), t = anyTold();
          both("wouldBe(" + root + "," + p + "," + t + ")", () -> x.wouldBe(root, p, t),
              () -> o.wouldBe(root, p, t));
          Object d = both("compare(" + p + "," + q + ")", () -> x.compare(p, q), () -> o.compare(p, q));
          if (d instanceof Integer) seen[6 + (Integer) d]++;
          both("canBe(" + p + "," + t + ")", () -> x.canBe(p, t), () -> o.canBe(p, t));
        }
        both("culprit(" + root + ")", () -> x.culprit(root), () -> o.culprit(root));
      }
    }

    void look() {
      int n = anyNode(), m = anyNode(), place = below(20) - 1;
      boolean f = r.nextBoolean();
      both("codeOf(" + n + ")", () -> x.codeOf(n), () -> o.codeOf(n));
      both("size(" + n + ")", () -> x.size(n), () -> o.size(n));
      both("above(" + n + ")", () -> x.above(n), () -> o.above(n));
      both("loose(" + n + ")", () -> x.loose(n), () -> o.loose(n));
      both("typeAt(" + m + "," + place + ")", () -> x.typeAt(m, place), () -> o.typeAt(m, place));
      both("typeSize(" + m + ")", () -> x.typeSize(m), () -> o.typeSize(m));
      both("general(" + m + ")", () -> x.general(m), () -> o.general(m));
      both("unlike(" + f + "," + place + ")", () -> x.unlike(f, place), () -> o.unlike(f, place));
      both("nodes()", () -> x.nodes(), () -> o.nodes.size());
      both("types()", () -> x.types(), () -> o.told.size());
      both("result()", () -> x.result(), () -> o.result);
      both("where()", () -> x.where(), () -> o.where);
      both("variables()", () -> x.variables(), () -> o.variables);
      both("meanType()", () -> x.meanType(), () -> o.meanType());
    }

    void ask() {
      int n = anyNode(), m = anyNode(), p = path(n), t = anyTold();
      switch (below(5)) {
        case 0: {
          Object c = both("compare(" + n + "," + m + ")", () -> x.compare(n, m), () -> o.compare(n, m));
          if (c instanceof Integer) seen[6 + (Integer) c]++;
          break;
        }
        case 1: {
          Object c = both("canBe(" + n + "," + t + ")", () -> x.canBe(n, t), () -> o.canBe(n, t));
          if (Boolean.TRUE.equals(c)) seen[11]++;
          break;
        }
        case 2:
          both("wouldBe(" + n + "," + p + "," + t + ")", () -> x.wouldBe(n, p, t),
              () -> o.wouldBe(n, p, t));
          break;
        case 3: {
          Object c = both("culprit(" + n + ")", () -> x.culprit(n), () -> o.culprit(n));
          if (c instanceof Integer && (Integer) c >= 0) seen[12]++;
          break;
        }
        default: {
          Object c = both("find(" + n + ")", () -> x.find(n), () -> o.find(n));
          if (c instanceof Integer) seen[(Integer) c]++;
          both("digest()", () -> x.digest(), () -> o.digest());
        }
      }
    }

    void go(int steps) {
      for (int i = 0; i < steps; i++) {
        int k = below(100);
        if (k < 26) leaf();
        else if (k < 56) build();
        else if (k < 74) tellType();
        else if (k < 78) {
          int n = name(), t = told(false);
          both("assume(" + n + "," + t + ")", () -> x.assume(n, t), () -> o.assume(n, t));
        } else if (k < 79) {
          int n = name();
          both("forget(" + n + ")", () -> x.forget(n), () -> o.forget(n));
        } else if (k < 81) look();
        else if (k < 98) ask();
        else if (o.nodes.size() > 30 || o.told.size() > 36 || below(30) == 0) {
          both("clear()", () -> x.clear(), () -> o.clear());
        }
      }
      look();
      both("digest()", () -> x.digest(), () -> o.digest());
    }
  }

  public static void main(String[] args) {
    int runs = args.length > 0 ? Integer.parseInt(args[0]) : 3000;
    long from = args.length > 1 ? Long.parseLong(args[1]) : 0;
    long[] seen = new long[16];
    for (long seed = from; seed < from + runs; seed++) {
      Run run = new Run(seed, 1 + (int) (seed % 5), (int) (seed % 7 == 0 ? 30 : seed % 3));
      try {
        if (seed % 4 == 0) {
          run.go(400);
        } else if (seed % 8 == 1) {
          run.goGrowing(20);
        } else if (seed % 8 == 3) {
          run.goTower(30);
        } else if (seed % 8 == 5) {
          run.goPairs(40);
        } else {
          run.goWhole(12, Run.FLAVOURS[(int) (seed / 4 % Run.FLAVOURS.length)]);
        }
      } catch (AssertionError e) {
        System.out.println("seed " + seed + ": " + e.getMessage());
        System.exit(1);
      }
      for (int i = 0; i < seen.length; i++) seen[i] += run.seen[i];
    }
    String[] what = {"found", "UNLIKE", "ENDLESS", "UNKNOWN", "TOO LARGE", "compare -1", "compare 0",
        "compare 1", "compare 2", "compare 3", "compare 4", "canBe", "culprit"};
    for (int i = 0; i < what.length; i++) System.out.println("  " + what[i] + ": " + seen[i]);
    System.out.println("FuzzTest: " + runs + " runs are as the Oracle's");
  }
}
