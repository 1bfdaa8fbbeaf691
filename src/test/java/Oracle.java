import java.util.ArrayList;
import java.util.Arrays;
import java.util.Collections;
import java.util.HashMap;
import java.util.HashSet;
import java.util.LinkedHashMap;
import java.util.List;
import java.util.Map;
import java.util.Set;
import java.util.TreeSet;

/**
 * A second TypeScribe, written from the document in the slowest and plainest way, with the Java
 * library: types are objects, all is copied, nothing is shared. It is there to be compared with.
 */
final class Oracle {
  static final class Node {
    int code, number, name = -1, tail = -1;
    Told type;
    List<Node> parts = new ArrayList<>();
    Node above;

    int size() {
      int n = 1;
      for (Node p : parts) n += p.size();
      return n;
    }

    Set<Integer> loose() {
      Set<Integer> all = new TreeSet<>();
      if (code == 2) all.add(name);
      for (int i = 0; i < parts.size(); i++) {
        Set<Integer> of = parts.get(i).loose();
        if (code == 3 || code == 6 || (code == 5 && i == 1)) of.remove(name);
        if (code == 13 && i == 2) {
          of.remove(name);
          of.remove(tail);
        }
        all.addAll(of);
      }
      return all;
    }

    List<Node> all() {
      List<Node> l = new ArrayList<>();
      for (Node p : parts) l.addAll(p.all());
      l.add(this);
      return l;
    }
  }

  static final class Told {
    int code;
    Told one, other;
    boolean used;

    boolean row() {
      return code == 7 || (code >= 10 && code <= 13) || code >= 30;
    }

    List<Integer> codes() {
      List<Integer> l = new ArrayList<>();
      l.add(code);
      if (one != null) l.addAll(one.codes());
      if (other != null) l.addAll(other.codes());
      return l;
    }
  }

  /** A TYPE or a ROW; a VARIABLE has code 100, and is what "is" says once that is not null. */
  static final class T {
    final int code;
    T one, other, is;

    T(int code, T one, T other) {
      this.code = code;
      this.one = one;
      this.other = other;
    }
  }

  static final class Scheme {
    T type;
    Set<T> general = new HashSet<>();
  }

  static final class Fails extends RuntimeException {
    final int why;
    Node node;

    Fails(int why) {
      super(null, null, false, false);
      this.why = why;
    }
  }

  static T var() {
    return new T(100, null, null);
  }

  static T seen(T t) {
    while (t.is != null) t = t.is;
    return t;
  }

  static boolean isVar(T t) {
    return seen(t).code == 100;
  }

  static boolean isField(T t) {
    return seen(t).code >= 10 && seen(t).code <= 13;
  }

  static void varsOf(T t, Set<T> into, Set<T> been) {
    t = seen(t);
    if (!been.add(t)) return;
    if (t.code == 100) into.add(t);
    if (t.one != null) varsOf(t.one, into, been);
    if (t.other != null) varsOf(t.other, into, been);
  }

  static Set<T> varsOf(T t) {
    Set<T> s = new HashSet<>();
    varsOf(t, s, new HashSet<>());
    return s;
  }

  static int count(T t, int most) {
    t = seen(t);
    int n = 1;
    if (t.one != null && n <= most) n += count(t.one, most - n);
    if (t.other != null && n <= most) n += count(t.other, most - n);
    return n;
  }

  static void tell(T t, Map<T, Integer> numbers, List<Integer> out) {
    t = seen(t);
    if (t.code == 100) {
      if (!numbers.containsKey(t)) numbers.put(t, 100 + numbers.size());
      out.add(numbers.get(t));
    } else if (t.code == 5) {
      out.add(5);
      List<T> fields = new ArrayList<>();
      T at = seen(t.one);
      for (; isField(at); at = seen(at.other)) fields.add(at);
      fields.sort((x, y) -> Integer.compare(x.code, y.code));
      for (T f : fields) {
        out.add(f.code);
        tell(f.one, numbers, out);
      }
      tell(at, numbers, out);
    } else {
      out.add(t.code);
      if (t.one != null) tell(t.one, numbers, out);
      if (t.other != null) tell(t.other, numbers, out);
    }
  }

  static List<Integer> tell(T t) {
    List<Integer> l = new ArrayList<>();
    tell(t, new LinkedHashMap<>(), l);
    return l;
  }

  static T rowEnd(T row) {
    T at = seen(row);
    while (isField(at)) at = seen(at.other);
    return at;
  }

  static void be(T variable, T other) {
    if (varsOf(other).contains(variable)) throw new Fails(2);
    variable.is = other;
  }

  static boolean hasLabel(T row, int label) {
    for (T at = seen(row); isField(at); at = seen(at.other)) if (at.code == label) return true;
    return false;
  }

  static T typeOfLabel(T row, int label) {
    T at = seen(row);
    while (at.code != label) at = seen(at.other);
    return at.one;
  }

  static T withoutLabel(T row, int label) {
    T at = seen(row);
    if (at.code == label) return at.other;
    return new T(at.code, at.one, withoutLabel(at.other, label));
  }

  static void makeOne(T l, T r) {
    l = seen(l);
    r = seen(r);
    if (l == r) return;
    if (l.code == 100) {
      be(l, r);
    } else if (r.code == 100) {
      be(r, l);
    } else if (l.code == 7 || isField(l)) {
      if (l.code == 7) {
        if (r.code != 7) throw new Fails(1);
        return;
      }
      if (!hasLabel(r, l.code)) {
        T end = rowEnd(r);
        if (end.code == 7) throw new Fails(1);
        if (end == rowEnd(l)) throw new Fails(2);
        end.is = new T(l.code, var(), var());
      }
      makeOne(l.one, typeOfLabel(r, l.code));
      makeOne(l.other, withoutLabel(r, l.code));
    } else {
      if (l.code != r.code) throw new Fails(1);
      if (l.one != null) makeOne(l.one, r.one);
      if (l.other != null) makeOne(l.other, r.other);
    }
  }

  static T copy(T t, Map<T, T> news, Set<T> general) {
    t = seen(t);
    if (t.code == 100) {
      if (!general.contains(t)) return t;
      if (!news.containsKey(t)) news.put(t, var());
      return news.get(t);
    }
    return new T(t.code, t.one == null ? null : copy(t.one, news, general),
        t.other == null ? null : copy(t.other, news, general));
  }

  static T read(Told told, Map<Integer, T> news) {
    if (told.code >= 20) return news.computeIfAbsent(told.code, k -> var());
    return new T(told.code, told.one == null ? null : read(told.one, news),
        told.other == null ? null : read(told.other, news));
  }

  /** Reads codes as they are told, with VARIABLES from 100. */
  static T read(List<Integer> codes, int[] at, Map<Integer, T> news) {
    int code = codes.get(at[0]++);
    if (code >= 20) return news.computeIfAbsent(code, k -> var());
    int beneath = code == 2 || code == 3 || (code >= 10 && code <= 13) ? 2
        : code == 4 || code == 5 ? 1 : 0;
    T one = beneath > 0 ? read(codes, at, news) : null;
    T other = beneath > 1 ? read(codes, at, news) : null;
    return new T(code, one, other);
  }

  /** One search for the TYPE of a node. */
  final class Search {
    Map<Node, T> types = new HashMap<>();
    Map<Integer, Integer> generals = new HashMap<>();
    Node open;
    int why;
    Node failedAt;
    List<Integer> lefts = new ArrayList<>(), rights = new ArrayList<>();
    boolean watches;

    Search(Node root, Node open, boolean watches) {
      this.open = open;
      this.watches = watches;
      try {
        find(root, new HashMap<>());
      } catch (Fails f) {
        why = f.why;
        failedAt = f.node;
        if (why > 2) {
          lefts.clear();
          rights.clear();
        }
      }
    }

    void one(T l, T r) {
      if (watches) {
        Map<T, Integer> numbers = new LinkedHashMap<>();
        lefts.clear();
        rights.clear();
        tell(l, numbers, lefts);
        tell(r, numbers, rights);
      }
      makeOne(l, r);
    }

    T find(Node n, Map<Integer, Scheme> around) {
      try {
        T t = n == open ? var() : byCode(n, around);
        if (count(t, 150) > 150) throw new Fails(4);
        types.put(n, t);
        return t;
      } catch (Fails f) {
        if (f.node == null) f.node = n;
        throw f;
      }
    }

    Map<Integer, Scheme> give(Map<Integer, Scheme> around, int name, T type, Set<T> general) {
      Map<Integer, Scheme> m = new HashMap<>(around);
      Scheme s = new Scheme();
      s.type = type;
      s.general = general;
      m.put(name, s);
      return m;
    }

    Set<T> generalIn(T v, Map<Integer, Scheme> around) {
      Set<T> s = varsOf(v);
      for (Scheme k : around.values()) {
        Set<T> kept = varsOf(k.type);
        kept.removeAll(k.general);
        s.removeAll(kept);
      }
      return s;
    }

    T byCode(Node n, Map<Integer, Scheme> around) {
      List<Node> p = n.parts;
      Set<T> none = new HashSet<>();
      switch (n.code) {
        case 0:
        case 1:
          return new T(n.code, null, null);
        case 2: {
          Scheme s = around.get(n.name);
          if (s != null) {
            if (count(s.type, 150) > 150) throw new Fails(4);
            return copy(s.type, new HashMap<>(), s.general);
          }
          if (assumed[n.name] == null) throw new Fails(3);
          return read(assumed[n.name], new HashMap<>());
        }
        case 3: {
          T a = var();
          T b = find(p.get(0), give(around, n.name, a, none));
          return new T(2, a, b);
        }
        case 4: {
          T f = find(p.get(0), around);
          T x = find(p.get(1), around);
          T r = var();
          one(f, new T(2, x, r));
          return r;
        }
        case 5:
        case 6: {
          T v;
          if (n.code == 5) {
            v = find(p.get(0), around);
          } else {
            T a = var();
            v = find(p.get(0), give(around, n.name, a, none));
            one(a, v);
          }
          Set<T> general = generalIn(v, around);
          generals.put(n.number, general.size());
          return find(p.get(1), give(around, n.name, v, general));
        }
        case 7: {
          T c = find(p.get(0), around);
          one(c, new T(1, null, null));
          T a = find(p.get(1), around);
          T b = find(p.get(2), around);
          one(a, b);
          return a;
        }
        case 8: {
          T a = find(p.get(0), around);
          return new T(3, a, find(p.get(1), around));
        }
        case 9:
        case 10: {
          T t = find(p.get(0), around);
          T a = var(), b = var();
          one(t, new T(3, a, b));
          return n.code == 9 ? a : b;
        }
        case 11:
          return new T(4, var(), null);
        case 12: {
          T h = find(p.get(0), around);
          T t = find(p.get(1), around);
          one(t, new T(4, h, null));
          return t;
        }
        case 13: {
          T l = find(p.get(0), around);
          T a = var();
          one(l, new T(4, a, null));
          T e = find(p.get(1), around);
          T m = find(p.get(2), give(give(around, n.name, a, none), n.tail, l, none));
          one(e, m);
          return e;
        }
        case 14:
          return new T(5, new T(7, null, null), null);
        case 15: {
          T v = find(p.get(0), around);
          T r = find(p.get(1), around);
          T w = var();
          one(r, new T(5, w, null));
          return new T(5, new T(10 + n.name, v, w), null);
        }
        case 16:
        case 17: {
          T r = find(p.get(0), around);
          T a = var(), w = var();
          one(r, new T(5, new T(10 + n.name, a, w), null));
          return n.code == 16 ? a : new T(5, w, null);
        }
        case 18: {
          T number = new T(0, null, null);
          one(find(p.get(0), around), number);
          one(find(p.get(1), around), number);
          return number;
        }
        case 19: {
          T a = find(p.get(0), around);
          one(a, find(p.get(1), around));
          return new T(1, null, null);
        }
        default: {
          T v = find(p.get(0), around);
          one(v, read(n.type, new HashMap<>()));
          return v;
        }
      }
    }
  }

  // ---- the state

  List<Node> nodes = new ArrayList<>();
  List<Told> told = new ArrayList<>();
  Told[] assumed = new Told[8];
  int result = -1;
  int where = -1;
  int variables = -1;
  Map<Integer, List<Integer>> types = new HashMap<>();
  Map<Integer, Integer> generals = new HashMap<>();
  List<Integer> lefts = new ArrayList<>(), rights = new ArrayList<>();

  // ---- building; each returns the answer or throws

  static void index(boolean ok) {
    if (!ok) throw new IndexOutOfBoundsException();
  }

  static void argument(boolean ok) {
    if (!ok) throw new IllegalArgumentException();
  }

  static void state(boolean ok) {
    if (!ok) throw new IllegalStateException();
  }

  boolean isNode(int n) {
    return n >= 0 && n < nodes.size();
  }

  boolean isType(int t) {
    return t >= 0 && t < told.size();
  }

  int build(int code, int name, int tail, int... parts) {
    for (int p : parts) index(isNode(p) && nodes.get(p).above == null);
    if (code == 100) argument(false);
    Set<Integer> different = new HashSet<>();
    for (int p : parts) argument(different.add(p));
    boolean named = code == 2 || code == 3 || code == 5 || code == 6 || code == 13;
    if (named) argument(name >= 0 && name <= 7);
    if (code == 13) argument(tail >= 0 && tail <= 7);
    if (code == 15 || code == 16 || code == 17) argument(name >= 0 && name <= 3);
    state(nodes.size() < 40);
    Node n = new Node();
    n.code = code;
    n.number = nodes.size();
    n.name = name;
    n.tail = tail;
    for (int p : parts) {
      n.parts.add(nodes.get(p));
      nodes.get(p).above = n;
    }
    nodes.add(n);
    return n.number;
  }

  int two(int code, int one, int other) {
    boolean ok = Arrays.asList(4, 8, 12, 18, 19).contains(code);
    return build(ok ? code : 100, -1, -1, one, other);
  }

  int written(int of, int type) {
    index(isNode(of) && nodes.get(of).above == null && isType(type) && !told.get(type).used);
    argument(!told.get(type).row());
    int n = build(20, -1, -1, of);
    nodes.get(n).type = told.get(type);
    told.get(type).used = true;
    return n;
  }

  int clear() {
    int n = nodes.size();
    nodes.clear();
    told.clear();
    return n;
  }

  int type(int code, int one, int other) {
    boolean leaf = code == 0 || code == 1 || code == 7 || (code >= 20 && code <= 25)
        || (code >= 30 && code <= 35);
    boolean single = code == 4 || code == 5;
    boolean twice = code == 2 || code == 3 || (code >= 10 && code <= 13);
    argument(leaf || single || twice);
    if (!leaf) index(isType(one) && !told.get(one).used);
    if (twice) index(isType(other) && !told.get(other).used);
    if (!leaf) state(told.get(one).row() == (code == 5));
    if (twice) state(told.get(other).row() == (code >= 10));
    if (twice) state(one != other);
    state(told.size() < 40);
    Told t = new Told();
    t.code = code;
    if (!leaf) {
      t.one = told.get(one);
      t.one.used = true;
    }
    if (twice) {
      t.other = told.get(other);
      t.other.used = true;
    }
    told.add(t);
    return told.size() - 1;
  }

  int assume(int name, int type) {
    argument(name >= 0 && name <= 7);
    index(isType(type) && !told.get(type).used);
    Told t = told.get(type);
    state(!t.row() && t.codes().size() <= 12);
    t.used = true;
    assumed[name] = t;
    Set<Integer> variables = new HashSet<>();
    for (int c : t.codes()) if (c >= 20) variables.add(c);
    return variables.size();
  }

  boolean forget(int name) {
    argument(name >= 0 && name <= 7);
    boolean was = assumed[name] != null;
    assumed[name] = null;
    return was;
  }

  Node node(int n) {
    index(isNode(n));
    return nodes.get(n);
  }

  int codeOf(int n) {
    return node(n).code;
  }

  int size(int n) {
    return node(n).size();
  }

  int above(int n) {
    return node(n).above == null ? -1 : node(n).above.number;
  }

  int loose(int n) {
    int sum = 0;
    for (int name : node(n).loose()) sum += 1 << name;
    return sum;
  }

  // ---- finding

  int find(int n) {
    Node root = node(n);
    state(root.size() <= 16);
    Search s = new Search(root, null, true);
    result = s.why;
    where = s.failedAt == null ? -1 : s.failedAt.number;
    types.clear();
    generals.clear();
    lefts.clear();
    rights.clear();
    variables = -1;
    if (s.why == 0) {
      for (Node k : root.all()) types.put(k.number, tell(s.types.get(k)));
      generals.putAll(s.generals);
      variables = varsOf(s.types.get(root)).size();
    } else {
      lefts.addAll(s.lefts);
      rights.addAll(s.rights);
    }
    return s.why;
  }

  static int at(List<Integer> row, int place) {
    return row != null && place >= 0 && place < row.size() ? row.get(place) : -1;
  }

  int typeAt(int n, int place) {
    return at(types.get(n), place);
  }

  int typeSize(int n) {
    return types.containsKey(n) ? types.get(n).size() : 0;
  }

  int general(int n) {
    return generals.getOrDefault(n, -1);
  }

  int unlike(boolean isRight, int place) {
    return at(isRight ? rights : lefts, place);
  }

  // ---- comparing

  static final class Row {
    Map<Integer, List<T>> byLabel = new HashMap<>();
    T end;

    Row(T t) {
      T at = seen(t);
      for (; isField(at); at = seen(at.other)) {
        byLabel.computeIfAbsent(at.code, k -> new ArrayList<>()).add(at.one);
      }
      end = at;
    }

    List<T> of(int label) {
      return byLabel.getOrDefault(label, Collections.emptyList());
    }
  }

  /** Whether t comes of p by putting something in place of the VARIABLES of p. */
  static boolean comes(T p, T t, Map<T, T> puts) {
    p = seen(p);
    t = seen(t);
    if (p.code == 100) {
      if (!puts.containsKey(p)) {
        puts.put(p, t);
        return true;
      }
      Map<T, Integer> numbers = new HashMap<>();
      List<Integer> was = new ArrayList<>(), is = new ArrayList<>();
      tell(new T(5, asRow(puts.get(p)), null), numbers, was);
      tell(new T(5, asRow(t), null), numbers, is);
      return was.equals(is);
    }
    if (t.code == 100) return false;
    if (p.code != 5) {
      return p.code == t.code && (p.one == null || comes(p.one, t.one, puts))
          && (p.other == null || comes(p.other, t.other, puts));
    }
    if (t.code != 5) return false;
    Row a = new Row(p.one), b = new Row(t.one);
    T rest = b.end;
    for (int label = 10; label <= 13; label++) {
      List<T> x = a.of(label), y = b.of(label);
      if (x.size() > y.size()) return false;
      for (int i = 0; i < x.size(); i++) if (!comes(x.get(i), y.get(i), puts)) return false;
      for (int i = y.size() - 1; i >= x.size(); i--) rest = new T(label, y.get(i), rest);
    }
    if (a.end.code == 7) return rest.code == 7;
    return comes(a.end, rest, puts);
  }

  /** A ROW as it is, a TYPE as a FIELD, so that both can be told as ROWS. */
  static T asRow(T t) {
    t = seen(t);
    return t.code == 7 || isField(t) || t.code == 100 ? t : new T(10, t, new T(7, null, null));
  }

  static T again(List<Integer> codes) {
    return read(codes, new int[1], new HashMap<>());
  }

  List<Integer> foundAlone(Node n) {
    Search s = new Search(n, null, false);
    return s.why == 0 ? tell(s.types.get(n)) : null;
  }

  int compare(int one, int other) {
    Node a = node(one), b = node(other);
    state(a.size() <= 16 && b.size() <= 16);
    List<Integer> x = foundAlone(a), y = foundAlone(b);
    if (x == null || y == null) return -1;
    if (x.equals(y)) return 0;
    if (comes(again(x), again(y), new HashMap<>())) return 1;
    if (comes(again(y), again(x), new HashMap<>())) return 2;
    try {
      makeOne(again(x), again(y));
      return 3;
    } catch (Fails f) {
      return 4;
    }
  }

  boolean canBe(int n, int type) {
    Node a = node(n);
    index(isType(type));
    argument(!told.get(type).row());
    state(a.size() <= 16);
    List<Integer> x = foundAlone(a);
    return x != null && comes(again(x), read(told.get(type), new HashMap<>()), new HashMap<>());
  }

  Node copyWith(Node n, Node part, Told type) {
    Node c = new Node();
    c.code = n.code;
    c.number = n.number;
    c.name = n.name;
    c.tail = n.tail;
    c.type = n.type;
    for (Node p : n.parts) c.parts.add(copyWith(p, part, type));
    if (n != part) return c;
    Node w = new Node();
    w.code = 20;
    w.type = type;
    w.parts.add(c);
    return w;
  }

  int wouldBe(int n, int part, int type) {
    Node a = node(n), p = node(part);
    index(isType(type));
    argument(a.all().contains(p) && !told.get(type).row());
    state(a.size() <= 16);
    return new Search(copyWith(a, p, told.get(type)), null, false).why;
  }

  int culprit(int n) {
    Node a = node(n);
    state(a.size() <= 16);
    if (new Search(a, null, false).why == 0) return -1;
    Node best = null;
    for (Node k : a.all()) {
      if (new Search(a, k, false).why != 0) continue;
      if (best == null || k.size() < best.size()
          || (k.size() == best.size() && k.number < best.number)) best = k;
    }
    return best.number;
  }

  double meanType() {
    if (types.isEmpty()) return 0;
    double sum = 0;
    for (List<Integer> l : types.values()) sum += l.size();
    return sum / types.size();
  }

  long digest() {
    List<Integer> all = new ArrayList<>();
    all.add(nodes.size());
    all.add(told.size());
    for (Node n : nodes) {
      all.addAll(Arrays.asList(n.code, n.size(), above(n.number), loose(n.number)));
    }
    all.addAll(Arrays.asList(result, where, variables));
    for (int i = 0; i < 40; i++) {
      all.add(typeSize(i));
      all.add(general(i));
      for (int k = 0; k < typeSize(i); k++) all.add(typeAt(i, k));
    }
    all.addAll(lefts);
    all.addAll(rights);
    long d = 58045;
    for (int x : all) d = d * 31 + x;
    return d;
  }
}
