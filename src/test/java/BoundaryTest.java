/**
 * A test for each sentence of the document that names a boundary case; the number of the promise
 * to which the sentence belongs is in the name of the test, and ahead of each message.
 */
public final class BoundaryTest {
  private static final Check check = new Check();
  private static final Class<IndexOutOfBoundsException> INDEX = IndexOutOfBoundsException.class;
  private static final Class<IllegalArgumentException> ARGUMENT = IllegalArgumentException.class;
  private static final Class<IllegalStateException> STATE = IllegalStateException.class;
  private static final int MIN = Integer.MIN_VALUE;
  private static final int MAX = Integer.MAX_VALUE;
  private static final int[] TWOS = {4, 8, 12, 18, 19};

  /** A call that builds a NODE, with what it is given in the one place that is looked at. */
  interface Build {
    int go(TypeScribe x, int given);
  }

  // ---- helpers

  static int tell(TypeScribe x, int... codes) {
    return PromiseTest.tell(x, codes);
  }

  static int[] row(int... codes) {
    return codes;
  }

  /** So many NUMBERS, and one TYPE that is told: NUMBER. */
  static TypeScribe numbers(int count) {
    TypeScribe x = PromiseTest.withNodes(count);
    x.type(0, 0, 0);
    return x;
  }

  static void type(String what, TypeScribe x, int node, int... codes) {
    check.equal(what, PromiseTest.typeOf(x, node), PromiseTest.text(codes));
  }

  static void found(String what, TypeScribe x, int node, int... codes) {
    check.equal(what + ": find", x.find(node), 0);
    type(what, x, node, codes);
  }

  static void failed(String what, TypeScribe x, int node, int why, int where) {
    check.equal(what + ": find", x.find(node), why);
    check.equal(what + ": where", x.where(), where);
  }

  static void unlikes(String what, TypeScribe x, int[] lefts, int[] rights) {
    check.equal(what + ": left", PromiseTest.unlike(x, false), PromiseTest.text(lefts));
    check.equal(what + ": right", PromiseTest.unlike(x, true), PromiseTest.text(rights));
  }

  /** The call is refused, and changes nothing that can be seen. */
  static void refused(String what, Class<? extends RuntimeException> due, TypeScribe x,
      Check.Call call) {
    long before = x.digest();
    check.fails(what, due, call);
    check.equal(what + " changes nothing", x.digest(), before);
  }

  /** A NAME that has a TYPE of its own for each use, with what is WRITTEN at it. */
  static int written(TypeScribe x, int... codes) {
    return x.written(x.name(7), tell(x, codes));
  }

  /** An object in which the NAME 7 has any TYPE. */
  static TypeScribe any() {
    TypeScribe x = new TypeScribe();
    x.assume(7, x.type(20, 0, 0));
    x.clear();
    return x;
  }

  /** The two TYPES beneath a PAIR, with the same VARIABLES, are MADE ONE; returns SAME. */
  static int same(TypeScribe x, int... pairOfTypes) {
    int first = x.half(false, x.written(x.name(6), tell(x, pairOfTypes)));
    return x.two(19, first, x.half(true, x.name(6)));
  }

  /** What find() tells for that, beneath a FUN that gives the NAME a TYPE. */
  static int madeOne(int... pairOfTypes) {
    TypeScribe x = new TypeScribe();
    return x.find(x.fun(6, same(x, pairOfTypes)));
  }

  // ---- promises 2 to 15: 40 NODES

  static void room(int promise, String what, Build build) {
    check.promise(promise);
    TypeScribe x = numbers(39);
    check.equal(what + " as the 40th NODE", build.go(x, 0), 39);
    check.equal(what + ": nodes", x.nodes(), 40);
    TypeScribe full = numbers(40);
    refused(what + " as a 41st NODE", STATE, full, () -> build.go(full, 0));
    check.equal(what + ": the PART is free still", full.above(0), -1);
    check.equal("clear", full.clear(), 40);
    for (int i = 0; i < 3; i++) full.number();
    full.type(0, 0, 0);
    check.equal(what + " when there is room again", build.go(full, 0), 3);
  }

  static void promises02to15TheRoomOf40Nodes() {
    room(2, "number", (x, n) -> x.number());
    room(3, "truth", (x, n) -> x.truth());
    room(4, "name", (x, n) -> x.name(7));
    room(5, "fun", (x, n) -> x.fun(0, n));
    room(6, "let", (x, n) -> x.let(false, 0, n, 1));
    room(6, "rec", (x, n) -> x.let(true, 0, n, 1));
    room(7, "choose", (x, n) -> x.choose(n, 1, 2));
    for (int code : TWOS) room(8, "two " + code, (x, n) -> x.two(code, n, 1));
    room(9, "first", (x, n) -> x.half(false, n));
    room(9, "second", (x, n) -> x.half(true, n));
    room(10, "empty", (x, n) -> x.empty());
    room(11, "unlink", (x, n) -> x.unlink(n, 1, 0, 1, 2));
    room(12, "bare", (x, n) -> x.bare());
    room(13, "with", (x, n) -> x.with(0, n, 1));
    room(14, "at", (x, n) -> x.at(false, 0, n));
    room(14, "less", (x, n) -> x.at(true, 0, n));
    room(15, "written", (x, n) -> x.written(n, 0));
  }

  // ---- promises 5 to 15: PARTS

  static void part(int promise, String what, Build build) {
    check.promise(promise);
    TypeScribe x = numbers(6);
    x.half(false, 0);
    for (int bad : row(0, 7, -1, 40, MIN, MAX)) {
      String given = bad == 0 ? "a PART already" : "no such NODE, " + bad;
      refused(what + " of " + given, INDEX, x, () -> build.go(x, bad));
    }
    check.equal(what + " of the last one", build.go(x, 6), 7);
    check.equal(what + ": it is a PART now", x.above(6), 7);
    refused(what + " of it again", INDEX, x, () -> build.go(x, 6));
  }

  static void promises05to15PartsThatAreNoneOrTaken() {
    part(5, "fun", (x, n) -> x.fun(0, n));
    part(6, "value of let", (x, n) -> x.let(false, 0, n, 1));
    part(6, "body of let", (x, n) -> x.let(false, 0, 1, n));
    part(6, "value of rec", (x, n) -> x.let(true, 0, n, 1));
    part(6, "body of rec", (x, n) -> x.let(true, 0, 1, n));
    part(7, "condition", (x, n) -> x.choose(n, 1, 2));
    part(7, "second PART", (x, n) -> x.choose(1, n, 2));
    part(7, "third PART", (x, n) -> x.choose(1, 2, n));
    for (int code : TWOS) {
      part(8, "one of two " + code, (x, n) -> x.two(code, n, 1));
      part(8, "other of two " + code, (x, n) -> x.two(code, 1, n));
    }
    part(9, "first", (x, n) -> x.half(false, n));
    part(9, "second", (x, n) -> x.half(true, n));
    part(11, "list", (x, n) -> x.unlink(n, 1, 0, 1, 2));
    part(11, "ifEmpty", (x, n) -> x.unlink(1, n, 0, 1, 2));
    part(11, "otherwise", (x, n) -> x.unlink(1, 2, 0, 1, n));
    part(13, "value of with", (x, n) -> x.with(0, n, 1));
    part(13, "record of with", (x, n) -> x.with(0, 1, n));
    part(14, "at", (x, n) -> x.at(false, 0, n));
    part(14, "less", (x, n) -> x.at(true, 0, n));
    part(15, "written", (x, n) -> x.written(n, 0));
  }

  static void twice(int promise, String what, Build build) {
    check.promise(promise);
    TypeScribe x = numbers(3);
    refused(what, ARGUMENT, x, () -> build.go(x, 2));
    TypeScribe full = numbers(40);
    refused(what + ", ahead of 40 NODES", ARGUMENT, full, () -> build.go(full, 2));
    check.promise(promise);
    refused(what + ", behind no such NODE", INDEX, full, () -> build.go(full, 40));
    x.half(false, 2);
    refused(what + ", behind a PART already", INDEX, x, () -> build.go(x, 2));
  }

  static void promises06to13TwoPartsThatAreTheSame() {
    twice(6, "let of the same", (x, n) -> x.let(false, 0, n, n));
    twice(6, "rec of the same", (x, n) -> x.let(true, 0, n, n));
    twice(7, "choose, the first two", (x, n) -> x.choose(n, n, 0));
    twice(7, "choose, the last two", (x, n) -> x.choose(0, n, n));
    twice(7, "choose, first and last", (x, n) -> x.choose(n, 0, n));
    twice(7, "choose, all three", (x, n) -> x.choose(n, n, n));
    for (int code : TWOS) twice(8, "two " + code + " of the same", (x, n) -> x.two(code, n, n));
    twice(11, "unlink, the first two", (x, n) -> x.unlink(n, n, 0, 1, 0));
    twice(11, "unlink, the last two", (x, n) -> x.unlink(0, n, 0, 1, n));
    twice(11, "unlink, first and last", (x, n) -> x.unlink(n, 0, 0, 1, n));
    twice(13, "with of the same", (x, n) -> x.with(0, n, n));
  }

  // ---- names and labels

  static void range(int promise, String what, int last, Build build) {
    check.promise(promise);
    for (int bad : row(-1, last + 1, MIN, MAX)) {
      TypeScribe x = numbers(3);
      refused(what + " " + bad, ARGUMENT, x, () -> build.go(x, bad));
      TypeScribe full = numbers(40);
      refused(what + " " + bad + ", ahead of 40 NODES", ARGUMENT, full, () -> build.go(full, bad));
    }
    for (int good = 0; good <= last; good++) {
      TypeScribe x = numbers(3);
      check.equal(what + " " + good, build.go(x, good), 3);
    }
  }

  static void promises04to14NamesAndLabels() {
    range(4, "name", 7, (x, n) -> x.name(n));
    range(5, "name of fun", 7, (x, n) -> x.fun(n, 0));
    range(6, "name of let", 7, (x, n) -> x.let(false, n, 0, 1));
    range(6, "name of rec", 7, (x, n) -> x.let(true, n, 0, 1));
    range(11, "HEAD", 7, (x, n) -> x.unlink(0, 1, n, 0, 2));
    range(11, "TAIL", 7, (x, n) -> x.unlink(0, 1, 0, n, 2));
    range(13, "label of with", 3, (x, n) -> x.with(n, 0, 1));
    range(14, "label of at", 3, (x, n) -> x.at(false, n, 0));
    range(14, "label of less", 3, (x, n) -> x.at(true, n, 0));
  }

  static void promises05to14NodesAreLookedAtAheadOfNamesAndLabels() {
    TypeScribe x = numbers(40);
    check.promise(5);
    refused("fun", INDEX, x, () -> x.fun(8, 40));
    check.promise(6);
    refused("let", INDEX, x, () -> x.let(false, 8, 0, 40));
    check.promise(8);
    refused("two", INDEX, x, () -> x.two(0, 40, 0));
    refused("two", INDEX, x, () -> x.two(0, 0, -1));
    check.promise(11);
    refused("unlink", INDEX, x, () -> x.unlink(0, 1, 8, -1, 40));
    check.promise(13);
    refused("with", INDEX, x, () -> x.with(4, 0, -1));
    check.promise(14);
    refused("at", INDEX, x, () -> x.at(true, -1, 40));
  }

  static void promise08CodesOfTwo() {
    check.promise(8);
    for (int code = -3; code < 110; code++) {
      TypeScribe x = numbers(2);
      int given = code;
      if (code == 4 || code == 8 || code == 12 || code == 18 || code == 19) {
        check.equal("code " + code, x.codeOf(x.two(code, 0, 1)), code);
      } else {
        refused("code " + code, ARGUMENT, x, () -> x.two(given, 0, 1));
      }
    }
    TypeScribe full = numbers(40);
    refused("a code that is none, ahead of 40 NODES", ARGUMENT, full, () -> full.two(MAX, 0, 1));
    refused("a code that is none", ARGUMENT, full, () -> full.two(MIN, 0, 1));
  }

  static void promise15TheTypeThatIsWritten() {
    check.promise(15);
    TypeScribe x = new TypeScribe();
    x.number();
    x.type(0, 0, 0);
    x.type(1, 0, 0);
    x.type(4, 0, 0);
    x.type(7, 0, 0);
    refused("no such TYPE", INDEX, x, () -> x.written(0, 4));
    refused("no such TYPE", INDEX, x, () -> x.written(0, -1));
    refused("no such TYPE", INDEX, x, () -> x.written(0, MAX));
    refused("used beneath another one", INDEX, x, () -> x.written(0, 0));
    refused("a ROW", ARGUMENT, x, () -> x.written(0, 3));
    x.assume(0, 1);
    refused("ASSUMED", INDEX, x, () -> x.written(0, 1));
    check.equal("written", x.written(0, 2), 1);
    refused("WRITTEN already", INDEX, x, () -> x.written(1, 2));
    TypeScribe full = numbers(40);
    full.type(30, 0, 0);
    refused("a ROW, ahead of 40 NODES", ARGUMENT, full, () -> full.written(0, 1));
    refused("no such TYPE, ahead of 40 NODES", INDEX, full, () -> full.written(0, 2));
    for (int rowCode : row(7, 30, 35)) {
      TypeScribe y = PromiseTest.withNodes(1);
      y.type(rowCode, 0, 0);
      refused("ROW " + rowCode, ARGUMENT, y, () -> y.written(0, 0));
    }
    TypeScribe z = PromiseTest.withNodes(1);
    int field = tell(z, 13, 0, 7);
    refused("a FIELD is a ROW", ARGUMENT, z, () -> z.written(0, field));
  }

  // ---- promise 1 and 16: new and cleared

  static void promise01ANewObject() {
    check.promise(1);
    TypeScribe x = new TypeScribe();
    check.equal("nodes", x.nodes(), 0);
    check.equal("types", x.types(), 0);
    check.fails("no NODE", INDEX, () -> x.codeOf(0));
    check.fails("no NODE", INDEX, () -> x.find(0));
    check.equal("clear", x.clear(), 0);
    check.equal("the first NODE", x.number(), 0);
    check.equal("the first TYPE", x.type(0, 0, 0), 0);
    TypeScribe other = new TypeScribe();
    check.equal("another object has its own", other.nodes(), 0);
  }

  static void promise16Clear() {
    check.promise(16);
    TypeScribe x = new TypeScribe();
    check.equal("of none", x.clear(), 0);
    x.assume(3, tell(x, 2, 20, 20));
    int let = x.let(true, 0, x.fun(1, x.name(1)), x.two(8, x.name(0), x.name(3)));
    x.find(let);
    check.equal("how many there were", x.clear(), 6);
    check.equal("nodes", x.nodes(), 0);
    check.equal("types", x.types(), 0);
    check.equal("and none a second time", x.clear(), 0);
    check.fails("the NODES are gone", INDEX, () -> x.size(0));
    check.fails("the TYPES are gone", INDEX, () -> x.assume(0, 0));
    check.equal("the RESULT stays", x.result(), 0);
    type("the RESULT stays", x, let, 3, 2, 100, 100, 2, 101, 101);
    check.equal("the RESULT stays", x.general(let), 1);
    check.equal("the RESULT stays", x.variables(), 2);
    check.equal("the RESULT stays", x.meanType() > 3.4, true);
    x.number();
    type("the RESULT stays as what it is", x, 0, 100);
    found("what is ASSUMED stays", x, x.name(3), 2, 100, 100);
    check.equal("forget", x.forget(3), true);
    x.clear();
    int fails = x.two(18, x.truth(), x.number());
    x.find(fails);
    x.clear();
    check.equal("a RESULT that FAILED stays", x.result(), 1);
    check.equal("a RESULT that FAILED stays", x.where(), fails);
    unlikes("a RESULT that FAILED stays", x, row(1), row(0));
    for (int i = 0; i < 40; i++) x.type(0, 0, 0);
    check.equal("room for 40 TYPES again", x.types(), 40);
    TypeScribe full = PromiseTest.withNodes(40);
    check.equal("40", full.clear(), 40);
  }

  static void promise16WhatWasUsedIsForgotten() {
    check.promise(16);
    TypeScribe x = new TypeScribe();
    x.type(0, 0, 0);
    x.written(x.half(true, x.number()), 0);
    x.clear();
    x.number();
    x.truth();
    x.type(1, 0, 0);
    check.equal("no PART", x.above(0), -1);
    check.equal("no PART", x.above(1), -1);
    check.equal("not used", x.written(0, 0), 2);
    check.equal("SIZE", x.size(2), 2);
    check.equal("SIZE", x.size(1), 1);
  }

  // ---- promise 17: types

  static boolean isTold(int code) {
    return (code >= 0 && code <= 5) || code == 7 || (code >= 10 && code <= 13)
        || (code >= 20 && code <= 25) || (code >= 30 && code <= 35);
  }

  static void promise17Codes() {
    check.promise(17);
    TypeScribe x = new TypeScribe();
    for (int code = -5; code < 110; code++) {
      int given = code;
      if (!isTold(code)) refused("code " + code, ARGUMENT, x, () -> x.type(given, 0, 0));
    }
    refused("code MIN", ARGUMENT, x, () -> x.type(MIN, 0, 0));
    refused("code MAX", ARGUMENT, x, () -> x.type(MAX, 0, 0));
    int number = 0;
    for (int code : row(0, 1, 7, 20, 21, 22, 23, 24, 25, 30, 31, 32, 33, 34, 35)) {
      check.equal("what is beneath is not looked at", x.type(code, MIN, 99), number);
      number++;
    }
    check.equal("LIST looks at one alone", x.type(4, 0, 99), 15);
    check.equal("RECORD looks at one alone", x.type(5, 2, -1), 16);
    check.equal("RECORD of a VARIABLE", x.type(5, 9, 9), 17);
    check.equal("the second one, if it is the same as the only one", x.type(4, 3, 3), 18);
  }

  static void promise17NumbersBeneath() {
    check.promise(17);
    TypeScribe x = new TypeScribe();
    x.type(0, 0, 0);
    x.type(1, 0, 0);
    x.type(7, 0, 0);
    for (int bad : row(-1, 3, 40, MIN, MAX)) {
      refused("LIST of none", INDEX, x, () -> x.type(4, bad, 0));
      refused("RECORD of none", INDEX, x, () -> x.type(5, bad, 0));
      refused("FUNCTION of none", INDEX, x, () -> x.type(2, bad, 0));
      refused("FUNCTION to none", INDEX, x, () -> x.type(2, 0, bad));
      refused("PAIR of none", INDEX, x, () -> x.type(3, bad, 0));
      refused("PAIR with none", INDEX, x, () -> x.type(3, 0, bad));
      refused("FIELD of none", INDEX, x, () -> x.type(10, bad, 2));
      refused("FIELD ahead of none", INDEX, x, () -> x.type(13, 0, bad));
    }
    x.type(4, 1, 0);
    refused("used beneath another one", INDEX, x, () -> x.type(4, 1, 0));
    refused("used beneath another one", INDEX, x, () -> x.type(2, 0, 1));
    refused("used, ahead of the sort", INDEX, x, () -> x.type(5, 1, 0));
    x.assume(0, 3);
    refused("ASSUMED", INDEX, x, () -> x.type(4, 3, 0));
    x.written(x.number(), 0);
    refused("WRITTEN", INDEX, x, () -> x.type(4, 0, 0));
    refused("an own number", INDEX, x, () -> x.type(4, 4, 0));
    check.equal("types", x.types(), 4);
  }

  static void promise17Sorts() {
    check.promise(17);
    TypeScribe x = new TypeScribe();
    int t = x.type(20, 0, 0), u = x.type(5, x.type(30, 0, 0), 0), r = x.type(7, 0, 0);
    int s = tell(x, 10, 0, 35);
    for (int code : row(2, 3)) {
      refused("a ROW first", STATE, x, () -> x.type(code, r, t));
      refused("a ROW second", STATE, x, () -> x.type(code, t, s));
      refused("both ROWS", STATE, x, () -> x.type(code, r, s));
      refused("both are the same", STATE, x, () -> x.type(code, t, t));
      refused("the same ROW", STATE, x, () -> x.type(code, r, r));
    }
    refused("LIST of a ROW", STATE, x, () -> x.type(4, r, 0));
    refused("RECORD of a TYPE", STATE, x, () -> x.type(5, t, 0));
    refused("RECORD of a RECORD", STATE, x, () -> x.type(5, u, 0));
    for (int code = 10; code <= 13; code++) {
      int field = code;
      refused("FIELD with a ROW", STATE, x, () -> x.type(field, s, r));
      refused("FIELD ahead of a TYPE", STATE, x, () -> x.type(field, t, u));
      refused("FIELD of a ROW ahead of a TYPE", STATE, x, () -> x.type(field, r, t));
      refused("both are the same TYPE", STATE, x, () -> x.type(field, t, t));
      refused("both are the same ROW", STATE, x, () -> x.type(field, r, r));
    }
    check.equal("all of them are free still", x.type(13, u, s), x.types() - 1);
    check.equal("all of them are free still", x.type(10, t, r), x.types() - 1);
  }

  static void promise17TheRoomOf40() {
    check.promise(17);
    TypeScribe x = new TypeScribe();
    for (int i = 0; i < 40; i++) check.equal("numbered from 0", x.type(0, 0, 0), i);
    refused("a 41st TYPE", STATE, x, () -> x.type(1, 0, 0));
    refused("a 41st TYPE", STATE, x, () -> x.type(2, 0, 1));
    refused("a 41st TYPE that is none", ARGUMENT, x, () -> x.type(6, 0, 0));
    refused("a 41st TYPE of none", INDEX, x, () -> x.type(4, 40, 0));
    check.equal("nothing is used", x.assume(0, 0), 0);
    x.clear();
    check.equal("room again", x.type(1, 0, 0), 0);
  }

  // ---- promises 18 and 19: what is ASSUMED

  static void promise18Assume() {
    check.promise(18);
    TypeScribe x = new TypeScribe();
    tell(x, 4, 0);
    tell(x, 7);
    for (int bad : row(-1, 8, MIN, MAX)) {
      refused("name " + bad, ARGUMENT, x, () -> x.assume(bad, 1));
      refused("name " + bad + ", ahead of no TYPE", ARGUMENT, x, () -> x.assume(bad, 99));
    }
    for (int bad : row(-1, 3, MIN, MAX)) {
      refused("no such TYPE", INDEX, x, () -> x.assume(0, bad));
    }
    refused("used already", INDEX, x, () -> x.assume(0, 0));
    refused("a ROW", STATE, x, () -> x.assume(0, 2));
    check.equal("no VARIABLE", x.assume(7, 1), 0);
    refused("ASSUMED already", INDEX, x, () -> x.assume(0, 1));
    x.clear();
    check.equal("the same one twice", x.assume(0, tell(x, 2, 20, 20)), 1);
    check.equal("of both sorts", x.assume(1, tell(x, 2, 25, 5, 35)), 2);
    check.equal("six", x.assume(2, tell(x, 3, 20, 3, 21, 3, 22, 3, 23, 3, 24, 25)), 6);
    int row = tell(x, 35);
    refused("a VARIABLE for a ROW", STATE, x, () -> x.assume(0, row));
    for (int name = 0; name < 8; name++) {
      check.equal("name " + name, x.assume(name, tell(x, 0)), 0);
    }
  }

  static void promise18TwelveCodes() {
    check.promise(18);
    TypeScribe x = new TypeScribe();
    int twelve = tell(x, 4, 4, 4, 4, 4, 4, 4, 4, 4, 4, 4, 20);
    int thirteen = tell(x, 4, 4, 4, 4, 4, 4, 4, 4, 4, 4, 4, 4, 20);
    refused("13 codes", STATE, x, () -> x.assume(0, thirteen));
    check.equal("12 codes", x.assume(0, twelve), 1);
    int wide = tell(x, 5, 10, 0, 11, 0, 12, 0, 13, 0, 10, 0, 30);
    check.equal("12 codes of a RECORD", x.assume(1, wide), 1);
    check.equal("13 codes are not used", x.written(x.number(), thirteen), 1);
    found("12 codes", x, x.name(0), 4, 4, 4, 4, 4, 4, 4, 4, 4, 4, 4, 100);
  }

  static void promise18InPlaceOfWhatWas() {
    check.promise(18);
    TypeScribe x = new TypeScribe();
    x.assume(0, tell(x, 0));
    found("the first one", x, x.name(0), 0);
    x.assume(0, tell(x, 1));
    found("the second one in its place", x, x.name(0), 1);
    type("the RESULT is of the second one", x, 1, 1);
    int row = tell(x, 7);
    check.fails("a refused one", STATE, () -> x.assume(0, row));
    found("the second one still", x, x.name(0), 1);
    check.equal("all VARIABLES are GENERAL", x.assume(0, tell(x, 20)), 1);
    found("each use has new ones", x, x.two(8, x.name(0), x.name(0)), 3, 100, 101);
  }

  static void promise18NamesAround() {
    check.promise(18);
    TypeScribe x = new TypeScribe();
    x.assume(0, tell(x, 0));
    x.assume(1, tell(x, 1));
    found("FUN gives it another one", x, x.fun(0, x.name(0)), 2, 100, 100);
    found("LET does, in its body", x, x.let(false, 0, x.name(0), x.two(8, x.name(0), x.name(1))),
        3, 0, 1);
    found("LET does not, in its value", x, x.let(false, 1, x.name(1), x.name(1)), 1);
    int own = x.fun(2, x.two(4, x.name(0), x.name(2)));
    found("REC does, in its value", x, x.let(true, 0, own, x.number()), 0);
    own = x.fun(2, x.two(4, x.name(0), x.name(2)));
    found("and in its body", x, x.let(true, 0, own, x.name(0)), 2, 100, 101);
    x.clear();
    found("UNLINK does", x, x.unlink(x.empty(), x.empty(), 1, 0, x.name(0)), 4, 100);
    found("by both of its names", x, x.unlink(x.two(12, x.number(), x.empty()), x.number(), 1, 0,
        x.name(1)), 0);
    int outside = x.unlink(x.empty(), x.name(0), 1, 0, x.number());
    found("but not for an empty one", x, outside, 0);
  }

  static void promise19Forget() {
    check.promise(19);
    TypeScribe x = new TypeScribe();
    for (int bad : row(-1, 8, MIN, MAX)) {
      refused("name " + bad, ARGUMENT, x, () -> x.forget(bad));
    }
    for (int name = 0; name < 8; name++) {
      check.equal("nothing was", x.forget(name), false);
      x.assume(name, tell(x, 0));
    }
    check.equal("something was", x.forget(0), true);
    check.equal("and is no more", x.forget(0), false);
    check.equal("something was", x.forget(7), true);
    int zero = x.name(0);
    failed("nothing is ASSUMED any more", x, zero, 3, zero);
    found("the others stay", x, x.name(6), 0);
    x.assume(0, tell(x, 1));
    found("again", x, zero, 1);
  }

  // ---- promises 20 to 25: what expressions are

  static void promises20and21Counts() {
    TypeScribe x = new TypeScribe();
    check.promise(20);
    check.equal("none", x.nodes(), 0);
    for (int i = 1; i <= 40; i++) {
      x.bare();
      check.equal("nodes", x.nodes(), i);
    }
    check.fails("a 41st", STATE, () -> x.bare());
    check.equal("nodes", x.nodes(), 40);
    check.promise(21);
    check.equal("none", x.types(), 0);
    x.type(7, 0, 0);
    check.equal("a ROW counts", x.types(), 1);
    x.type(5, 0, 0);
    check.equal("one that is used counts", x.types(), 2);
    x.assume(0, 1);
    check.equal("one that is ASSUMED counts", x.types(), 2);
    x.clear();
    check.equal("since clear()", x.types(), 0);
    check.promise(20);
    check.equal("since clear()", x.nodes(), 0);
  }

  static void promises22to25NodesThatAreNone() {
    TypeScribe x = PromiseTest.withNodes(2);
    for (int bad : row(-1, 2, 39, 40, MIN, MAX)) {
      check.promise(22);
      check.fails("codeOf " + bad, INDEX, () -> x.codeOf(bad));
      check.promise(23);
      check.fails("size " + bad, INDEX, () -> x.size(bad));
      check.promise(24);
      check.fails("above " + bad, INDEX, () -> x.above(bad));
      check.promise(25);
      check.fails("loose " + bad, INDEX, () -> x.loose(bad));
    }
    TypeScribe full = PromiseTest.withNodes(40);
    check.promise(22);
    check.equal("the last one", full.codeOf(39), 0);
    check.promise(23);
    check.equal("the last one", full.size(39), 1);
    check.promise(24);
    check.equal("the last one", full.above(39), -1);
    check.promise(25);
    check.equal("the last one", full.loose(39), 0);
  }

  static void promise23Sizes() {
    check.promise(23);
    TypeScribe x = new TypeScribe();
    int node = x.name(0);
    for (int size = 1; size < 40; size++) {
      check.equal("SIZE", x.size(node), size);
      int next = x.half(false, node);
      check.promise(24);
      check.equal("none until it is a PART", x.above(next), -1);
      check.equal("above", x.above(node), next);
      check.promise(23);
      node = next;
    }
    check.equal("all of 40", x.size(node), 40);
    check.equal("the one beneath is as it was", x.size(20), 21);
  }

  static void promise25Loose() {
    check.promise(25);
    TypeScribe x = new TypeScribe();
    int all = x.name(0);
    for (int name = 1; name < 8; name++) all = x.two(8, all, x.name(name));
    check.equal("all eight", x.loose(all), 255);
    check.equal("FUN takes its own away", x.loose(x.fun(7, all)), 127);
    x.clear();
    check.equal("LET: not in its value", x.loose(x.let(false, 0, x.name(0), x.name(0))), 1);
    check.equal("LET: in its body", x.loose(x.let(false, 0, x.number(), x.name(0))), 0);
    check.equal("REC: in its value too", x.loose(x.let(true, 0, x.name(0), x.name(0))), 0);
    check.equal("UNLINK: HEAD and TAIL, in the third PART",
        x.loose(x.unlink(x.number(), x.number(), 1, 2, x.two(8, x.name(1), x.name(2)))), 0);
    check.equal("UNLINK: not in the list",
        x.loose(x.unlink(x.name(1), x.number(), 1, 2, x.number())), 2);
    check.equal("UNLINK: not for an empty one",
        x.loose(x.unlink(x.number(), x.name(2), 1, 2, x.number())), 4);
    check.equal("the same name for both",
        x.loose(x.unlink(x.number(), x.number(), 3, 3, x.name(3))), 0);
    x.clear();
    int inner = x.fun(5, x.name(5));
    check.equal("given in it", x.loose(inner), 0);
    check.equal("but not at the NAME alone", x.loose(0), 32);
    check.equal("elsewhere it is not", x.loose(x.two(4, inner, x.name(5))), 32);
    x.assume(4, tell(x, 0));
    check.equal("what is ASSUMED gives none", x.loose(x.name(4)), 16);
  }

  // ---- promise 26: finding

  static void promise26Size16() {
    check.promise(26);
    TypeScribe x = new TypeScribe();
    int large = PromiseTest.chain(x, 16);
    check.equal("SIZE 16", x.find(large), 0);
    int larger = x.fun(1, large);
    refused("SIZE 17", STATE, x, () -> x.find(larger));
    for (int bad : row(-1, 17, 40, MIN, MAX)) {
      refused("no such NODE", INDEX, x, () -> x.find(bad));
    }
    check.equal("SIZE 16 beneath SIZE 17", x.find(large), 0);
    x.clear();
    check.fails("a NODE that was", INDEX, () -> x.find(0));
  }

  static void promise26NothingAround() {
    check.promise(26);
    TypeScribe x = new TypeScribe();
    int name = x.name(0);
    int body = x.two(8, name, x.number());
    int fun = x.fun(0, body);
    failed("nothing is around the NODE itself", x, body, 3, name);
    found("with the FUN", x, fun, 2, 100, 3, 100, 0);
    x.assume(0, tell(x, 1));
    found("but what is ASSUMED", x, body, 3, 1, 0);
    found("the FUN counts more", x, fun, 2, 100, 3, 100, 0);
  }

  static void promise26TheInnermostNode() {
    check.promise(26);
    TypeScribe x = new TypeScribe();
    int inner = x.two(18, x.truth(), x.number());
    int outer = x.two(18, x.fun(0, inner), x.name(3));
    failed("the innermost NODE, and nothing more is done", x, outer, 1, inner);
    x.clear();
    int first = x.name(1), second = x.name(2);
    failed("the first of two", x, x.two(8, first, second), 3, first);
    x.clear();
    int early = x.two(18, x.truth(), x.name(1));
    failed("PLUS is MADE ONE with NUMBER ahead of its second PART", x, early, 1, early);
    int choose = x.choose(x.number(), x.name(1), x.number());
    failed("so is the condition with TRUTH", x, choose, 1, choose);
    int unlink = x.unlink(x.number(), x.name(1), 0, 0, x.number());
    failed("so is the list", x, unlink, 1, unlink);
    int same = x.two(19, x.truth(), x.name(1));
    failed("not so with SAME", x, same, 3, same - 1);
    int call = x.two(4, x.truth(), x.name(1));
    failed("nor with CALL", x, call, 3, call - 1);
    int link = x.two(12, x.truth(), x.name(1));
    failed("nor with LINK", x, link, 3, link - 1);
    int with = x.with(0, x.name(1), x.number());
    failed("the value of WITH comes first", x, with, 3, with - 2);
  }

  static void promise26HeadAndTailOfOneName() {
    check.promise(26);
    TypeScribe x = new TypeScribe();
    int list = x.two(12, x.number(), x.empty());
    found("the TAIL counts", x, x.unlink(list, x.empty(), 3, 3, x.name(3)), 4, 0);
    list = x.two(12, x.number(), x.empty());
    found("HEAD alone", x, x.unlink(list, x.number(), 3, 4, x.name(3)), 0);
  }

  /** A TYPE of 149 codes, and one more for each LIST. */
  static int typeOf150(TypeScribe x, int more) {
    x.assume(1, tell(x, 4, 4, 4, 4, 4, 4, 4, 4, 4, 4, 4, 0));
    x.assume(2, tell(x, 4, 4, 4, 4, 4, 4, 4, 4, 4, 0));
    x.clear();
    // 36, 73, then 147 codes
    int base = LargeTest.three(x, 1, 1, 2);
    int top = x.fun(0, LargeTest.twice(x, 4));
    for (int i = 0; i < more; i++) top = x.two(12, top, x.empty());
    return x.let(false, 3, base, x.let(false, 4, LargeTest.twice(x, 3), top));
  }

  static void promise26OneHundredAndFiftyCodes() {
    check.promise(26);
    TypeScribe x = new TypeScribe();
    int all = typeOf150(x, 0);
    check.equal("149 codes", x.find(all), 0);
    check.equal("149 codes", x.typeSize(all), 149);
    int list = typeOf150(x, 1);
    check.equal("150 codes", x.find(list), 0);
    check.equal("150 codes", x.typeSize(list), 150);
    x.clear();
    // LIST of LIST: a SIZE of 18 would be too large, so it is FUN above FUN
    int base = LargeTest.three(x, 1, 1, 2);
    int fun = x.fun(0, x.fun(0, LargeTest.twice(x, 4)));
    int larger = x.let(false, 3, base, x.let(false, 4, LargeTest.twice(x, 3), fun));
    failed("151 codes", x, larger, 4, fun);
    check.equal("TOO LARGE has no places", x.unlike(false, 0), -1);
    check.equal("TOO LARGE has no places", x.unlike(true, 0), -1);
    check.equal("nor a TYPE", x.typeSize(base), 0);
  }

  static void promise26TooLargeThoughTheWholeIsSmall() {
    check.promise(26);
    TypeScribe x = new TypeScribe();
    x.assume(1, tell(x, 4, 4, 4, 4, 4, 4, 4, 4, 4, 4, 4, 0));
    // 38, 77, 155 codes
    int base = LargeTest.three(x, 1, 1, 1);
    int pair = LargeTest.twice(x, 4);
    int all = x.let(false, 3, base, x.let(false, 4, LargeTest.twice(x, 3), x.half(false, pair)));
    failed("as soon as the PART has its TYPE", x, all, 4, pair);
  }

  static void promise26OnlyAsSoonAsItHasItsType() {
    check.promise(26);
    TypeScribe x = any();
    int[] codes = new int[27];
    int n = 0;
    codes[n++] = 2;
    for (int i = 0; i < 12; i++) {
      codes[n++] = 3;
      codes[n++] = 20;
    }
    codes[n++] = 20;
    codes[n++] = 20;
    int grow = x.written(x.name(7), tell(x, codes));
    int part = x.name(7);
    int all = x.let(false, 1, grow, x.two(4, x.name(1), x.two(4, x.name(1), part)));
    check.equal("found", x.find(all), 0);
    check.equal("13 times 13 VARIABLES", x.typeSize(part), 2 * 13 * 13 - 1);
    check.equal("one VARIABLE", x.typeSize(all), 1);
  }

  // ---- promise 26: MAKING ONE

  static void promise26TheSameVariable() {
    check.promise(26);
    TypeScribe x = new TypeScribe();
    int same = x.fun(0, x.two(19, x.name(0), x.name(0)));
    found("nothing", x, same, 2, 100, 1);
    check.equal("the same ROW VARIABLE", madeOne(3, 5, 30, 5, 30), 0);
    check.equal("in a TYPE, beside others", madeOne(3, 3, 20, 0, 3, 20, 0), 0);
  }

  static void promise26Endless() {
    check.promise(26);
    check.equal("the left one is in the other one", madeOne(3, 20, 4, 20), 2);
    check.equal("the right one is in the other one", madeOne(3, 4, 20, 20), 2);
    check.equal("deep in it", madeOne(3, 20, 3, 0, 2, 1, 5, 10, 20, 7), 2);
    check.equal("as soon as it is known", madeOne(3, 3, 20, 21, 3, 4, 21, 4, 20), 2);
    check.equal("a ROW in itself", madeOne(3, 5, 30, 5, 11, 0, 30), 2);
    check.equal("a ROW in itself, right", madeOne(3, 5, 11, 0, 30, 5, 30), 2);
    check.equal("a ROW in a TYPE of itself", madeOne(3, 5, 30, 5, 11, 5, 30, 7), 2);
    check.equal("a ROW in the TYPE of a FIELD that is gone from the other one",
        madeOne(3, 5, 10, 20, 30, 5, 10, 5, 30, 11, 0, 7), 0);
    check.equal("a ROW in the TYPE of a FIELD that is not gone",
        madeOne(3, 5, 10, 20, 30, 5, 10, 0, 11, 5, 30, 7), 2);
    check.equal("not so if it is another one", madeOne(3, 20, 4, 21), 0);
    check.equal("nor if it is beside it", madeOne(3, 3, 20, 0, 3, 4, 21, 0), 0);
  }

  static void promise26Unlike() {
    check.promise(26);
    int[][] types = {{0}, {1}, {2, 0, 0}, {3, 0, 0}, {4, 0}, {5, 7}};
    for (int[] left : types) {
      for (int[] right : types) {
        int[] both = new int[1 + left.length + right.length];
        both[0] = 3;
        System.arraycopy(left, 0, both, 1, left.length);
        System.arraycopy(right, 0, both, 1 + left.length, right.length);
        check.equal("codes " + left[0] + " and " + right[0], madeOne(both), left == right ? 0 : 1);
      }
    }
  }

  static void promise26InOrder() {
    check.promise(26);
    check.equal("UNLIKE first", madeOne(3, 3, 0, 20, 3, 1, 4, 20), 1);
    check.equal("ENDLESS first", madeOne(3, 3, 20, 0, 3, 4, 20, 1), 2);
    check.equal("deep ahead of behind", madeOne(3, 3, 4, 0, 20, 3, 4, 1, 4, 20), 1);
    check.equal("a FUNCTION too", madeOne(3, 2, 20, 0, 2, 4, 20, 1), 2);
  }

  static void promise26Rows() {
    check.promise(26);
    check.equal("two ENDS", madeOne(3, 5, 7, 5, 7), 0);
    check.equal("END and a FIELD", madeOne(3, 5, 7, 5, 10, 0, 7), 1);
    check.equal("END and a FIELD ahead of a VARIABLE", madeOne(3, 5, 7, 5, 10, 0, 30), 1);
    check.equal("a FIELD and END", madeOne(3, 5, 10, 0, 7, 5, 7), 1);
    check.equal("the label is not there, and it ends with END",
        madeOne(3, 5, 10, 0, 7, 5, 11, 0, 7), 1);
    check.equal("the left one has a VARIABLE there", madeOne(3, 5, 10, 0, 30, 5, 11, 0, 7), 1);
    check.equal("both end with the same VARIABLE",
        madeOne(3, 5, 10, 0, 30, 5, 11, 0, 30), 2);
    check.equal("the same FIELD ahead of it", madeOne(3, 5, 10, 0, 30, 5, 10, 0, 30), 0);
    check.equal("both end with a VARIABLE", madeOne(3, 5, 10, 0, 30, 5, 11, 1, 31), 0);
    check.equal("the order of labels does not matter",
        madeOne(3, 5, 10, 0, 11, 1, 7, 5, 11, 1, 10, 0, 7), 0);
    check.equal("of the same label it does",
        madeOne(3, 5, 10, 0, 10, 1, 7, 5, 10, 1, 10, 0, 7), 1);
    check.equal("one of the same label too many",
        madeOne(3, 5, 10, 0, 10, 0, 7, 5, 10, 0, 7), 1);
    check.equal("a VARIABLE for one of the same label",
        madeOne(3, 5, 10, 0, 10, 1, 7, 5, 10, 0, 30), 0);
    check.equal("the second one with the second one",
        madeOne(3, 5, 10, 0, 10, 1, 7, 5, 11, 0, 10, 0, 10, 1, 7), 1);
    check.equal("the second one with the second one, behind another label",
        madeOne(3, 5, 10, 0, 10, 1, 30, 5, 11, 0, 10, 0, 10, 1, 7), 0);
    check.equal("the third one with the third one",
        madeOne(3, 5, 10, 0, 10, 1, 10, 4, 0, 30, 5, 11, 0, 10, 0, 12, 0, 10, 1, 10, 4, 0, 7), 0);
    check.equal("the third one with the third one, which is another TYPE",
        madeOne(3, 5, 10, 0, 10, 1, 10, 4, 0, 30, 5, 11, 0, 10, 0, 12, 0, 10, 1, 10, 4, 1, 7), 1);
    check.equal("a RECORD in a FIELD has FIELDS of its own",
        madeOne(3, 5, 11, 5, 11, 0, 7, 7, 5, 11, 5, 11, 0, 7, 7), 0);
    check.equal("a RECORD in a FIELD, behind another label",
        madeOne(3, 5, 11, 5, 11, 0, 10, 1, 7, 7, 5, 11, 5, 10, 1, 11, 1, 7, 7), 1);
    check.equal("one of the same label too many, ahead of the same VARIABLE",
        madeOne(3, 5, 10, 0, 10, 0, 30, 5, 10, 0, 30), 2);
  }

  static void promise26LeftFieldsAsTheyStand() {
    check.promise(26);
    // by the labels, ENDLESS would come first; as they stand, UNLIKE does
    check.equal("as they stand", madeOne(3, 5, 11, 0, 10, 20, 7, 5, 10, 4, 20, 11, 1, 7), 1);
    check.equal("as they stand", madeOne(3, 5, 10, 20, 11, 0, 7, 5, 11, 1, 10, 4, 20, 7), 2);
    check.equal("not as the right ones stand",
        madeOne(3, 5, 10, 20, 11, 0, 7, 5, 11, 1, 10, 4, 20, 7), 2);
    check.equal("a TYPE ahead of what is behind it", madeOne(3, 5, 10, 0, 7, 5, 10, 1, 11, 0, 7), 1);
    check.equal("what is behind is MADE ONE too", madeOne(3, 5, 10, 20, 7, 5, 10, 0, 11, 0, 7), 1);
  }

  static void promise26NewVariablesOfRows() {
    check.promise(26);
    TypeScribe x = any();
    int one = written(x, 5, 10, 0, 30);
    int other = written(x, 5, 12, 1, 11, 20, 31);
    int same = x.two(19, one, other);
    check.equal("found", x.find(same), 0);
    type("the left one has the right one's", x, one, 5, 10, 0, 11, 100, 12, 1, 101);
    type("and the right one the left one's", x, other, 5, 10, 0, 11, 100, 12, 1, 101);
    x.clear();
    one = written(x, 5, 30);
    other = written(x, 5, 13, 0, 7);
    x.find(x.two(19, one, other));
    type("a VARIABLE alone is the other one", x, one, 5, 13, 0, 7);
    x.clear();
    one = written(x, 5, 10, 0, 11, 1, 30);
    other = written(x, 5, 11, 20, 31);
    x.find(x.two(19, one, other));
    type("what is left for the right one", x, other, 5, 10, 0, 11, 1, 100);
    x.clear();
    one = written(x, 3, 5, 11, 0, 11, 1, 30, 5, 30);
    other = written(x, 3, 5, 12, 1, 11, 0, 10, 4, 20, 11, 1, 13, 0, 31, 5, 32);
    x.find(x.two(19, one, other));
    type("the right ROW without those FIELDS, for the left VARIABLE", x, other, 3,
        5, 10, 4, 100, 11, 0, 11, 1, 12, 1, 13, 0, 101, 5, 10, 4, 100, 12, 1, 13, 0, 101);
    x.clear();
    one = written(x, 3, 5, 10, 0, 11, 0, 30, 5, 30);
    other = written(x, 3, 5, 12, 1, 10, 0, 10, 4, 0, 11, 0, 7, 5, 32);
    x.find(x.two(19, one, other));
    type("only the first one of a label goes", x, other, 3,
        5, 10, 0, 10, 4, 0, 11, 0, 12, 1, 7, 5, 10, 4, 0, 12, 1, 7);
    x.clear();
    one = written(x, 3, 5, 10, 0, 30, 5, 30);
    other = written(x, 3, 5, 10, 20, 31, 5, 11, 1, 7);
    x.find(x.two(19, one, other));
    type("a VARIABLE behind FIELDS, found out later", x, other, 3, 5, 10, 0, 11, 1, 7, 5, 11, 1, 7);
  }

  static void promise26LabelsSeveralTimes() {
    check.promise(26);
    TypeScribe x = new TypeScribe();
    int two = x.with(1, x.number(), x.with(1, x.truth(), x.bare()));
    found("the first one counts", x, x.at(false, 1, two), 0);
    two = x.with(1, x.number(), x.with(1, x.truth(), x.bare()));
    found("the second one, without the first", x, x.at(false, 1, x.at(true, 1, two)), 1);
    x.clear();
    two = x.with(1, x.number(), x.with(1, x.truth(), x.bare()));
    int third = x.at(true, 1, x.at(true, 1, x.at(true, 1, two)));
    failed("there is no third one", x, third, 1, third);
    unlikes("there is no third one", x, row(5, 7), row(5, 11, 100, 101));
  }

  // ---- promise 26: GENERAL names

  static void promise26WhatIsNotGeneral() {
    check.promise(26);
    TypeScribe x = new TypeScribe();
    int body = x.two(8, x.two(4, x.name(1), x.number()), x.two(4, x.name(1), x.truth()));
    int fun = x.fun(0, x.let(false, 1, x.name(0), body));
    failed("a VARIABLE that is in a TYPE around", x, fun, 1, body - 1);
    x.clear();
    body = x.two(8, x.two(4, x.name(1), x.number()), x.two(4, x.name(1), x.truth()));
    int let = x.let(false, 1, x.fun(0, x.name(0)), body);
    found("one that is in none", x, let, 3, 0, 1);
    x.clear();
    body = x.two(8, x.two(4, x.name(1), x.number()), x.two(4, x.name(1), x.truth()));
    fun = x.fun(0, x.let(false, 1, x.fun(2, x.name(2)), body));
    found("other names around do no harm", x, fun, 2, 100, 3, 0, 1);
    x.clear();
    int in = x.two(19, x.name(0), x.two(4, x.name(1), x.name(0)));
    fun = x.fun(1, x.let(true, 0, x.fun(2, x.two(4, x.name(1), x.name(2))), x.name(0)));
    check.equal("a REC beneath a FUN", x.find(fun), 0);
    check.equal("its VARIABLES are around", x.general(fun - 1), 0);
    check.equal("not in it", x.general(in), -1);
  }

  // ---- promises 27 and 28: the RESULT

  static void promises27and28ResultAndWhere() {
    check.promise(27);
    TypeScribe x = new TypeScribe();
    check.equal("ahead of the first find()", x.result(), -1);
    check.promise(28);
    check.equal("ahead of the first find()", x.where(), -1);
    int unlike = x.two(18, x.truth(), x.number());
    int endless = x.fun(0, x.two(4, x.name(0), x.name(0)));
    int unknown = x.name(5);
    int ok = x.number();
    int[][] due = {{unlike, 1, unlike}, {ok, 0, -1}, {endless, 2, endless - 1}, {unknown, 3, unknown}};
    for (int[] d : due) {
      check.promise(26);
      check.equal("find", x.find(d[0]), d[1]);
      check.promise(27);
      check.equal("result", x.result(), d[1]);
      check.promise(28);
      check.equal("where", x.where(), d[2]);
    }
    check.promise(27);
    check.fails("a refused find()", INDEX, () -> x.find(40));
    check.equal("tells nothing new", x.result(), 3);
    check.promise(28);
    check.equal("tells nothing new", x.where(), unknown);
    check.promise(27);
    x.compare(ok, unlike);
    x.culprit(unlike);
    x.canBe(ok, x.type(0, 0, 0));
    x.wouldBe(unlike, unlike, 0);
    check.equal("no other call tells anything new", x.result(), 3);
    check.equal("TOO LARGE", x.find(typeOf151(x)), 4);
    check.equal("TOO LARGE", x.result(), 4);
  }

  static int typeOf151(TypeScribe x) {
    x.clear();
    x.assume(1, tell(x, 4, 4, 4, 4, 4, 4, 4, 4, 4, 4, 4, 0));
    x.clear();
    int base = LargeTest.three(x, 1, 1, 1);
    return x.let(false, 3, base, x.let(false, 4, LargeTest.twice(x, 3), LargeTest.twice(x, 4)));
  }

  // ---- promises 29 and 30: TYPES in the RESULT

  static void promise29Places() {
    check.promise(29);
    TypeScribe x = new TypeScribe();
    check.equal("ahead of the first find()", x.typeAt(0, 0), -1);
    int beside = x.number();
    int name = x.name(0);
    int fun = x.fun(0, name);
    check.equal("ahead of the first find()", x.typeAt(fun, 0), -1);
    x.find(fun);
    check.equal("the first place", x.typeAt(fun, 0), 2);
    check.equal("the last place", x.typeAt(fun, 2), 100);
    for (int bad : row(3, -1, 4, MIN, MAX)) {
      check.equal("no place " + bad, x.typeAt(fun, bad), -1);
    }
    for (int bad : row(beside, 3, 39, 40, -1, MIN, MAX)) {
      check.equal("not in it, " + bad, x.typeAt(bad, 0), -1);
    }
    int above = x.half(false, fun);
    check.equal("one that is built later is not in it", x.typeAt(above, 0), -1);
    x.find(name);
    check.equal("FAILED", x.typeAt(fun, 0), -1);
    check.equal("FAILED", x.typeAt(name, 0), -1);
    x.find(beside);
    check.equal("in the latest one", x.typeAt(beside, 0), 0);
    check.equal("not in the latest one", x.typeAt(fun, 0), -1);
  }

  static void promise29InTheEnd() {
    check.promise(29);
    TypeScribe x = new TypeScribe();
    int first = x.name(0);
    int plus = x.two(18, x.name(0), x.number());
    int fun = x.fun(0, x.two(8, first, plus));
    x.find(fun);
    type("what is found out later", x, first, 0);
    x.assume(0, tell(x, 1));
    x.forget(0);
    type("what is ASSUMED later is not in it", x, first, 0);
    x.clear();
    int row = x.name(1);
    int with = x.with(2, x.number(), x.with(0, x.name(2), row));
    int all = x.fun(2, x.fun(1, with));
    x.find(all);
    type("by labels, and VARIABLES as they come then", x, with, 5, 10, 100, 12, 0, 101);
    type("each TYPE has its own numbers", x, row, 5, 100);
    type("the whole", x, all, 2, 100, 2, 5, 101, 5, 10, 100, 12, 0, 101);
  }

  static void promise29FieldsByLabels() {
    check.promise(29);
    TypeScribe x = any();
    int w = written(x, 5, 13, 20, 11, 21, 13, 22, 10, 23, 11, 24, 30);
    found("those of the same label as they were", x, w,
        5, 10, 100, 11, 101, 11, 102, 13, 103, 13, 104, 105);
    x.clear();
    w = written(x, 5, 11, 5, 12, 20, 10, 21, 7, 10, 20, 7);
    found("in a RECORD beneath", x, w, 5, 10, 100, 11, 5, 10, 101, 12, 100, 7, 7);
    x.clear();
    w = written(x, 5, 10, 20, 7);
    found("END is told", x, w, 5, 10, 100, 7);
  }

  static void promise30Sizes() {
    check.promise(30);
    TypeScribe x = new TypeScribe();
    check.equal("ahead of the first find()", x.typeSize(0), 0);
    int name = x.name(0);
    int fun = x.fun(0, name);
    x.find(fun);
    check.equal("as many as typeAt() tells", x.typeSize(fun), 3);
    check.equal("one", x.typeSize(name), 1);
    for (int bad : row(2, 39, 40, -1, MIN, MAX)) {
      check.equal("not in it, " + bad, x.typeSize(bad), 0);
    }
    x.find(name);
    check.equal("FAILED", x.typeSize(fun), 0);
  }

  // ---- promise 31: general

  static void promise31General() {
    check.promise(31);
    TypeScribe x = new TypeScribe();
    check.equal("ahead of the first find()", x.general(0), -1);
    int let = x.let(false, 0, x.empty(), x.name(0));
    int beside = x.let(false, 0, x.empty(), x.name(0));
    int rec = x.let(true, 1, x.fun(2, x.two(4, x.name(1), x.name(2))), let);
    x.find(rec);
    check.equal("LET", x.general(let), 1);
    check.equal("REC", x.general(rec), 2);
    check.equal("no LET or REC", x.general(0), -1);
    check.equal("not in it", x.general(beside), -1);
    for (int bad : row(-1, 39, 40, MIN, MAX)) check.equal("none, " + bad, x.general(bad), -1);
    int none = x.let(false, 0, x.number(), x.name(0));
    x.find(none);
    check.equal("no VARIABLES", x.general(none), 0);
    check.equal("not in the latest one", x.general(rec), -1);
    int fails = x.let(false, 0, x.empty(), x.name(6));
    x.find(fails);
    check.equal("FAILED", x.general(fails), -1);
    check.equal("FAILED", x.general(none), -1);
  }

  // ---- promise 32: unlike

  static void promise32Unlike() {
    check.promise(32);
    TypeScribe x = any();
    check.equal("ahead of the first find()", x.unlike(false, 0), -1);
    check.equal("ahead of the first find()", x.unlike(true, 0), -1);
    int fails = x.two(19, written(x, 3, 20, 3, 21, 0), written(x, 3, 22, 3, 23, 1));
    x.find(fails);
    unlikes("as a whole, as they were, and numbered through both", x,
        row(3, 100, 3, 101, 0), row(3, 102, 3, 103, 1));
    for (int bad : row(5, -1, MIN, MAX)) {
      check.equal("no place " + bad, x.unlike(false, bad), -1);
      check.equal("no place " + bad, x.unlike(true, bad), -1);
    }
    check.equal("the last place", x.unlike(true, 4), 1);
    x.find(fails - 1);
    check.equal("found", x.unlike(false, 0), -1);
    check.equal("found", x.unlike(true, 0), -1);
    x.find(x.name(3));
    check.equal("UNKNOWN", x.unlike(false, 0), -1);
    check.equal("UNKNOWN", x.unlike(true, 0), -1);
    x.find(typeOf151(x));
    check.equal("TOO LARGE", x.result(), 4);
    check.equal("TOO LARGE", x.unlike(false, 0), -1);
    check.equal("TOO LARGE", x.unlike(true, 0), -1);
  }

  static void promise32Endless() {
    check.promise(32);
    TypeScribe x = new TypeScribe();
    int call = x.two(4, x.name(0), x.name(0));
    x.find(x.fun(0, call));
    check.equal("ENDLESS", x.result(), 2);
    unlikes("the same VARIABLE in both", x, row(100), row(2, 100, 101));
    x.clear();
    x.find(x.fun(6, same(x, 3, 5, 13, 0, 10, 20, 30, 5, 11, 20, 30)));
    check.equal("ENDLESS", x.result(), 2);
    unlikes("by labels", x, row(5, 10, 100, 13, 0, 101), row(5, 11, 100, 101));
    x.compare(0, 0);
    x.culprit(1);
    unlikes("other calls change nothing", x, row(5, 10, 100, 13, 0, 101), row(5, 11, 100, 101));
  }

  // ---- promise 33: variables

  static void promise33Variables() {
    check.promise(33);
    TypeScribe x = any();
    check.equal("ahead of the first find()", x.variables(), -1);
    x.find(x.number());
    check.equal("none", x.variables(), 0);
    x.find(written(x, 2, 20, 5, 10, 21, 11, 20, 30));
    check.equal("of both sorts, each once", x.variables(), 3);
    x.find(x.name(3));
    check.equal("FAILED", x.variables(), -1);
    int inside = x.half(false, x.two(8, x.number(), x.empty()));
    x.find(inside);
    check.equal("of that NODE alone", x.variables(), 0);
    check.fails("a refused find()", INDEX, () -> x.find(-1));
    check.equal("changes nothing", x.variables(), 0);
  }

  // ---- promise 34: compare

  static void promise34Compare() {
    check.promise(34);
    TypeScribe x = any();
    int one = written(x, 2, 20, 21);
    int renamed = written(x, 2, 25, 20);
    int closer = written(x, 2, 20, 20);
    int other = written(x, 2, 0, 20);
    int back = written(x, 2, 20, 1);
    int number = x.number();
    int fails = x.name(0);
    check.equal("the same, but for the numbers", x.compare(one, renamed), 0);
    check.equal("the same NODE", x.compare(one, one), 0);
    check.equal("the other one comes of the one", x.compare(one, closer), 1);
    check.equal("the one comes of the other", x.compare(closer, one), 2);
    check.equal("both can be MADE ONE", x.compare(other, back), 3);
    check.equal("otherwise", x.compare(other, number), 4);
    check.equal("the one is not found", x.compare(fails, one), -1);
    check.equal("the other one is not found", x.compare(one, fails), -1);
    check.equal("both are not found", x.compare(fails, fails), -1);
    check.equal("a VARIABLE alone", x.compare(x.name(7), number), 1);
    check.equal("nothing is changed", x.result(), -1);
    for (int bad : row(-1, x.nodes(), 40, MIN, MAX)) {
      refused("no such NODE", INDEX, x, () -> x.compare(bad, one));
      refused("no such NODE", INDEX, x, () -> x.compare(one, bad));
    }
  }

  static void promise34WithDifferentVariables() {
    check.promise(34);
    TypeScribe x = any();
    int one = written(x, 3, 20, 4, 20);
    int other = written(x, 3, 4, 20, 20);
    check.equal("they are different in both, but this is ENDLESS", x.compare(one, other), 4);
    int a = written(x, 3, 20, 0);
    int b = written(x, 3, 4, 20, 21);
    check.equal("the same number is not the same VARIABLE", x.compare(a, b), 3);
    x.clear();
    int open = written(x, 5, 10, 0, 30);
    int ended = written(x, 5, 11, 1, 10, 0, 7);
    int wrong = written(x, 5, 10, 1, 7);
    int bare = x.bare();
    check.equal("a ROW in place of a VARIABLE", x.compare(open, ended), 1);
    check.equal("a ROW in place of a VARIABLE", x.compare(ended, open), 2);
    check.equal("another TYPE", x.compare(open, wrong), 4);
    check.equal("END for a FIELD", x.compare(open, bare), 4);
    int first = written(x, 5, 10, 20, 30), second = written(x, 5, 11, 20, 30);
    check.equal("each has what the other one has not", x.compare(first, second), 3);
    x.clear();
    int same = written(x, 2, 5, 10, 0, 30, 5, 30);
    int differ = written(x, 2, 5, 10, 0, 11, 0, 7, 5, 12, 0, 7);
    int fits = written(x, 2, 5, 10, 0, 11, 0, 12, 1, 7, 5, 12, 1, 11, 0, 7);
    check.equal("not the same ROW for a VARIABLE", x.compare(same, differ), 4);
    check.equal("the same ROW in another order", x.compare(same, fits), 1);
  }

  static void promise34Size16() {
    check.promise(34);
    TypeScribe x = new TypeScribe();
    int large = PromiseTest.chain(x, 16);
    int small = x.number();
    check.equal("SIZE 16", x.compare(large, small), 4);
    check.equal("SIZE 16", x.compare(small, large), 4);
    int larger = x.fun(0, large);
    refused("SIZE 17", STATE, x, () -> x.compare(larger, small));
    refused("SIZE 17", STATE, x, () -> x.compare(small, larger));
    refused("no such NODE comes first", INDEX, x, () -> x.compare(larger, 40));
    refused("no such NODE comes first", INDEX, x, () -> x.compare(-1, larger));
  }

  // ---- promise 35: canBe

  static void promise35CanBe() {
    check.promise(35);
    TypeScribe x = new TypeScribe();
    int fun = x.fun(0, x.name(0));
    int fails = x.name(1);
    int number = tell(x, 0);
    int ok = tell(x, 2, 4, 1, 4, 1);
    int row = tell(x, 7);
    int field = tell(x, 10, 0, 30);
    check.equal("not used", x.canBe(fun, ok), true);
    check.equal("used beneath another one", x.canBe(fun, ok - 1), false);
    check.equal("a NUMBER", x.canBe(fun, number), false);
    check.equal("not found", x.canBe(fails, ok), false);
    x.written(x.number(), ok);
    check.equal("used: WRITTEN", x.canBe(fun, ok), true);
    for (int bad : row(-1, x.nodes(), 40, MIN, MAX)) {
      refused("no such NODE", INDEX, x, () -> x.canBe(bad, ok));
    }
    for (int bad : row(-1, x.types(), 40, MIN, MAX)) {
      refused("no such TYPE", INDEX, x, () -> x.canBe(fun, bad));
    }
    refused("END", ARGUMENT, x, () -> x.canBe(fun, row));
    refused("a FIELD", ARGUMENT, x, () -> x.canBe(fun, field));
    refused("a ROW, though it is not found", ARGUMENT, x, () -> x.canBe(fails, row));
    x.clear();
    int large = PromiseTest.chain(x, 16);
    int t = tell(x, 0), r = tell(x, 30);
    check.equal("SIZE 16", x.canBe(large, t), false);
    int larger = x.fun(0, large);
    refused("SIZE 17", STATE, x, () -> x.canBe(larger, t));
    refused("a ROW comes first", ARGUMENT, x, () -> x.canBe(larger, r));
    refused("no such TYPE comes first", INDEX, x, () -> x.canBe(larger, 2));
  }

  static void promise35InPlaceOfVariables() {
    check.promise(35);
    TypeScribe x = any();
    int pair = written(x, 3, 20, 20);
    check.equal("the same twice", x.canBe(pair, tell(x, 3, 4, 20, 4, 20)), true);
    check.equal("not the same twice", x.canBe(pair, tell(x, 3, 4, 20, 4, 21)), false);
    check.equal("one VARIABLE is too wide", x.canBe(pair, tell(x, 20)), false);
    int any = x.name(7);
    check.equal("anything", x.canBe(any, tell(x, 20)), true);
    x.clear();
    int number = x.number();
    check.equal("a VARIABLE does not come of NUMBER", x.canBe(number, tell(x, 25)), false);
    int record = written(x, 5, 10, 20, 30);
    check.equal("a ROW in place of a VARIABLE", x.canBe(record, tell(x, 5, 11, 0, 10, 1, 7)), true);
    check.equal("END", x.canBe(record, tell(x, 5, 10, 1, 7)), true);
    check.equal("the label is missing", x.canBe(record, tell(x, 5, 11, 1, 35)), false);
    check.equal("a VARIABLE", x.canBe(record, tell(x, 5, 30)), false);
    x.clear();
    int ended = x.with(0, x.number(), x.bare());
    check.equal("END does not become a VARIABLE", x.canBe(ended, tell(x, 5, 10, 0, 30)), false);
    check.equal("the same one", x.canBe(ended, tell(x, 5, 10, 0, 7)), true);
  }

  // ---- promise 36: wouldBe

  static void promise36WouldBe() {
    check.promise(36);
    TypeScribe x = new TypeScribe();
    int name = x.name(0);
    int fun = x.fun(0, name);
    int beside = x.number();
    int truth = tell(x, 1);
    int row = tell(x, 7);
    check.equal("at the NODE itself", x.wouldBe(fun, fun, truth), 1);
    check.equal("at one beneath it", x.wouldBe(fun, name, truth), 0);
    check.equal("nothing is used", x.written(x.truth(), truth), 4);
    check.equal("used", x.wouldBe(fun, name, truth), 0);
    check.equal("UNKNOWN", x.wouldBe(name, name, truth), 3);
    refused("a NODE beside it", ARGUMENT, x, () -> x.wouldBe(fun, beside, truth));
    refused("a NODE above it", ARGUMENT, x, () -> x.wouldBe(name, fun, truth));
    refused("a ROW", ARGUMENT, x, () -> x.wouldBe(fun, name, row));
    for (int bad : row(-1, 5, 40, MIN, MAX)) {
      refused("no such NODE", INDEX, x, () -> x.wouldBe(bad, name, truth));
      refused("no such PART", INDEX, x, () -> x.wouldBe(fun, bad, truth));
      refused("no such TYPE", INDEX, x, () -> x.wouldBe(fun, name, bad));
    }
    refused("no such TYPE comes first", INDEX, x, () -> x.wouldBe(fun, beside, 2));
    int endless = tell(x, 2, 20, 4, 20);
    check.equal("ENDLESS", x.wouldBe(fun, fun, endless), 2);
    check.equal("nothing is changed", x.result(), -1);
    check.equal("nothing is built", x.nodes(), 5);
  }

  static void promise36OneNodeLarger() {
    check.promise(36);
    TypeScribe x = new TypeScribe();
    int large = PromiseTest.chain(x, 16);
    int number = tell(x, 0), truth = tell(x, 1), row = tell(x, 30);
    check.equal("SIZE 16", x.wouldBe(large, 0, number), 0);
    check.equal("SIZE 16", x.wouldBe(large, 0, truth), 1);
    int larger = x.fun(0, large);
    refused("SIZE 17", STATE, x, () -> x.wouldBe(larger, 0, number));
    refused("a ROW comes first", ARGUMENT, x, () -> x.wouldBe(larger, 0, row));
    for (int i = x.nodes(); i < 40; i++) x.number();
    check.equal("with 40 NODES", x.wouldBe(large, 0, number), 0);
    refused("a NODE that is not in it comes first", ARGUMENT, x, () -> x.wouldBe(larger, 39, number));
  }

  // ---- promise 37: culprit

  static void promise37Culprit() {
    check.promise(37);
    TypeScribe x = new TypeScribe();
    check.fails("no such NODE", INDEX, () -> x.culprit(0));
    int ok = x.number();
    check.equal("find() tells 0 as it is", x.culprit(ok), -1);
    int alone = x.name(0);
    check.equal("the NODE itself", x.culprit(alone), alone);
    int same = x.two(19, x.number(), x.truth());
    check.equal("of several the smallest number", x.culprit(same), same - 2);
    int second = x.truth(), first = x.number();
    int turned = x.two(19, first, second);
    check.equal("the smallest number, not the first PART", x.culprit(turned), second);
    int both = x.two(8, x.half(false, x.name(3)), x.number());
    check.equal("the smallest SIZE", x.culprit(both), both - 3);
    int function = x.fun(0, x.number()), alone2 = x.number();
    int sizes = x.two(19, function, alone2);
    check.equal("the smallest SIZE, though its number is larger", x.culprit(sizes), alone2);
    int wide = x.two(8, x.name(1), x.name(2));
    check.equal("two are wrong: what is above both", x.culprit(wide), wide);
    for (int bad : row(-1, x.nodes(), 40, MIN, MAX)) {
      refused("no such NODE", INDEX, x, () -> x.culprit(bad));
    }
    check.equal("nothing is changed", x.result(), -1);
    x.clear();
    int large = x.name(0);
    for (int i = 1; i < 16; i++) large = x.half(false, large);
    check.equal("SIZE 16", x.culprit(large), 0);
    int larger = x.half(true, large);
    refused("SIZE 17", STATE, x, () -> x.culprit(larger));
  }

  static void promise37LeftOpen() {
    check.promise(37);
    TypeScribe x = new TypeScribe();
    int let = x.let(false, 0, x.two(18, x.truth(), x.truth()), x.two(18, x.name(0), x.number()));
    check.equal("its PARTS are not looked at", x.culprit(let), let - 4);
    int open = x.let(false, 0, x.name(5),
        x.two(8, x.two(4, x.name(0), x.number()), x.two(4, x.name(0), x.truth())));
    check.equal("a new VARIABLE, which is GENERAL then", x.culprit(open), open - 8);
  }

  // ---- promise 38: the mean

  static void promise38Mean() {
    check.promise(38);
    TypeScribe x = new TypeScribe();
    check.equal("ahead of the first find()", x.meanType(), 0.0);
    int pair = x.two(8, x.number(), x.empty());
    x.number();
    x.find(pair);
    check.equal("not cut, of those in the RESULT alone", x.meanType(), 7 / 3.0);
    x.clear();
    check.equal("cleared", x.meanType(), 7 / 3.0);
    x.find(x.number());
    check.equal("of one", x.meanType(), 1.0);
    x.find(x.name(0));
    check.equal("FAILED", x.meanType(), 0.0);
  }

  // ---- promise 39: the checksum

  static long sum(long... numbers) {
    long d = 58045;
    for (long x : numbers) d = d * 31 + x;
    return d;
  }

  /** The numbers of a RESULT without any TYPE: 0 and -1 for each of the 40. */
  static long[] withoutTypes(long... ahead) {
    long[] all = new long[ahead.length + 80];
    System.arraycopy(ahead, 0, all, 0, ahead.length);
    for (int i = ahead.length; i < all.length; i += 2) all[i + 1] = -1;
    return all;
  }

  static void promise39Digest() {
    check.promise(39);
    TypeScribe x = new TypeScribe();
    check.equal("a new object", x.digest(), sum(withoutTypes(0, 0, -1, -1, -1)));
    x.name(3);
    x.type(7, 0, 0);
    check.equal("a NODE and a ROW", x.digest(),
        sum(withoutTypes(1, 1, 2, 1, -1, 8, -1, -1, -1)));
    x.find(0);
    check.equal("UNKNOWN", x.digest(), sum(withoutTypes(1, 1, 2, 1, -1, 8, 3, 0, -1)));
    x.clear();
    x.find(x.empty());
    long[] due = withoutTypes(1, 0, 11, 1, -1, 0, 0, -1, 1);
    long[] more = new long[due.length + 2];
    System.arraycopy(due, 0, more, 0, 11);
    more[9] = 2;
    more[11] = 4;
    more[12] = 100;
    System.arraycopy(due, 11, more, 13, due.length - 11);
    check.equal("each typeAt() behind typeSize() and general()", x.digest(), sum(more));
    x.clear();
    x.find(x.two(12, x.truth(), x.bare()));
    due = withoutTypes(3, 0, 1, 1, 2, 0, 14, 1, 2, 0, 12, 3, -1, 0, 1, 2, -1);
    more = new long[due.length + 4];
    System.arraycopy(due, 0, more, 0, due.length);
    more[due.length] = 5;
    more[due.length + 1] = 7;
    more[due.length + 2] = 4;
    more[due.length + 3] = 1;
    check.equal("the left one, then the right one", x.digest(), sum(more));
    check.equal("the same again", x.digest(), sum(more));
  }

  static void promise39WrapsAround() {
    check.promise(39);
    TypeScribe x = PromiseTest.withNodes(40);
    java.math.BigInteger d = java.math.BigInteger.valueOf(58045);
    long[] numbers = new long[2 + 160];
    numbers[0] = 40;
    for (int i = 0; i < 40; i++) {
      numbers[2 + 4 * i + 1] = 1;
      numbers[2 + 4 * i + 2] = -1;
    }
    long[] tail = withoutTypes(-1, -1, -1);
    for (long n : numbers) d = next(d, n);
    for (long n : tail) d = next(d, n);
    check.equal("as a 64-bit integer", x.digest(), d.longValue());
  }

  private static java.math.BigInteger next(java.math.BigInteger d, long n) {
    return d.multiply(java.math.BigInteger.valueOf(31)).add(java.math.BigInteger.valueOf(n));
  }

  public static void main(String[] args) {
    promise01ANewObject();
    promises02to15TheRoomOf40Nodes();
    promises05to15PartsThatAreNoneOrTaken();
    promises06to13TwoPartsThatAreTheSame();
    promises04to14NamesAndLabels();
    promises05to14NodesAreLookedAtAheadOfNamesAndLabels();
    promise08CodesOfTwo();
    promise15TheTypeThatIsWritten();
    promise16Clear();
    promise16WhatWasUsedIsForgotten();
    promise17Codes();
    promise17NumbersBeneath();
    promise17Sorts();
    promise17TheRoomOf40();
    promise18Assume();
    promise18TwelveCodes();
    promise18InPlaceOfWhatWas();
    promise18NamesAround();
    promise19Forget();
    promises20and21Counts();
    promises22to25NodesThatAreNone();
    promise23Sizes();
    promise25Loose();
    promise26Size16();
    promise26NothingAround();
    promise26TheInnermostNode();
    promise26HeadAndTailOfOneName();
    promise26OneHundredAndFiftyCodes();
    promise26TooLargeThoughTheWholeIsSmall();
    promise26OnlyAsSoonAsItHasItsType();
    promise26TheSameVariable();
    promise26Endless();
    promise26Unlike();
    promise26InOrder();
    promise26Rows();
    promise26LeftFieldsAsTheyStand();
    promise26NewVariablesOfRows();
    promise26LabelsSeveralTimes();
    promise26WhatIsNotGeneral();
    promises27and28ResultAndWhere();
    promise29Places();
    promise29InTheEnd();
    promise29FieldsByLabels();
    promise30Sizes();
    promise31General();
    promise32Unlike();
    promise32Endless();
    promise33Variables();
    promise34Compare();
    promise34WithDifferentVariables();
    promise34Size16();
    promise35CanBe();
    promise35InPlaceOfVariables();
    promise36WouldBe();
    promise36OneNodeLarger();
    promise37Culprit();
    promise37LeftOpen();
    promise38Mean();
    promise39Digest();
    promise39WrapsAround();
    check.end("BoundaryTest");
  }
}
