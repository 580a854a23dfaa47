import java.util.ArrayList;
import java.util.List;
import java.util.function.Consumer;
import java.util.function.ToIntFunction;
import java.util.function.ToLongFunction;

/**
 * What is refused changes nothing (but THE TAPE, as told), nor does a call that only asks: of two objects with the same
 * calls behind them one gets the call in question too, and then both are asked for all there is.
 */
public final class RefusalsTest extends Asked {
  record Asking(String name, ToLongFunction<CrustCrumb> call) {}

  private static final String[] STATES = {"new", "half", "full", "faulty"};

  private static CrustCrumb in(String state) {
    CrustCrumb x = new CrustCrumb();
    switch (state) {
      case "half" -> half(x);
      case "full" -> full(x);
      case "faulty" -> faulty(x);
      default -> { }
    }
    return x;
  }

  private static void half(CrustCrumb x) {
    write(x, THREE + "begin 2;gone 3;one 2;one 5;cherry 3 2;cherry 2 1;");
    x.text();
    x.mark(2);
    x.mark(7);
    x.see(0, 1, true);
    x.see(1, 0, false);
    x.keep(1);
    x.turn(4);
    x.give(0, 3);
    x.sheet(1, 1, 5);
    for (int i = 0; i < 5; i++) x.lay(1, i, 8 + i);
    write(x, "begin 5; one 4;");
  }

  private static void full(CrustCrumb x) {
    write(x, EIGHT + "begin 37;gone 5;one 1;one 2;one 3;one 4;one 5;one 6;");
    x.text();
    int[][] points = {{1, 4}, {4, 1}, {6, 6}, {6, 5}, {8, 8}, {11, 7}, {5, 10}, {2, 8}};
    for (int[] p : points) x.put(p[0], p[1]);
    for (int i = 0; i < 6; i++) x.mark(6 * i + 1);
    for (int i = 0; i < 6; i++) x.see(i, i, i % 2 == 0);
    x.keep(0);
    x.turn(30);
    x.see(6, 0, false);
    x.see(7, 0, false);
    x.keep(1);
    for (int k = 0; k < 4; k++) {
      x.sheet(k, k % 3, 40);
      for (int i = k; i < 40; i += 4) x.lay(k, i, i - 1);
    }
    String tape = "one 7;one 8;cherry 5 5;middle 4 4;";
    write(x, tape + " ".repeat(320 - tape.length()));
  }

  /** A text was refused, a read() torn, MARKS as many as PEOPLE, and fair by them. */
  private static void faulty(CrustCrumb x) {
    x.join(1);
    x.join(2);
    x.mark(0);
    x.mark(8);
    write(x, "one 3; one 0;");
    x.text();
    x.sheet(0, 2, 3);
    x.sheet(3, 0, 0);
    x.lay(0, 1, 9);
    x.lay(0, 2, 23);
    x.wipe(0);
    x.read(0, 2, 1, 5);
    x.wipe(0);
    x.mark(0);
    x.mark(8);
    x.keep(0);
    x.join(3);
    x.wipe(1);
    write(x, "gone ");
  }

  // ---- all there is

  private static List<Long> ask(CrustCrumb x) {
    List<Long> all = new ArrayList<>();
    for (int i = 0; i < 8; i++) all.add((long) x.rule(i));
    for (int i = 0; i < 6; i++) all.add((long) x.count(i));
    for (int i = 0; i < 8; i++) for (int w = 0; w < 4; w++) all.add((long) x.corner(i, w));
    for (int p = 0; p < 6; p++) {
      all.add((long) x.share(p));
      all.add((long) x.cherries(p));
      for (int w = 0; w < 2; w++) {
        all.add(x.place(p, w));
        all.add(x.crumb(p, w));
        all.add(x.crust(p, w));
        all.add(x.due(p, w));
        all.add(x.work(p, 3, 7, w));
      }
    }
    for (int w = 0; w < 3; w++) {
      all.add((long) x.judge(w));
      all.add(x.off(w));
      all.add(x.best(w));
      all.add(x.centre(w));
      all.add((long) x.rounds(w));
      all.add((long) x.gentle(w));
      all.add((long) x.told(w));
      all.add((long) x.begins(w));
    }
    for (int i = 0; i < 8; i++) all.add(x.far(i, 0));
    for (int n = 1; n <= 9; n++) all.add((long) x.alike(n));
    all.add((long) x.cut());
    all.add((long) x.fault());
    all.add((long) x.torn());
    return all;
  }

  /** Where each MARK is, and what is SEEN, by what is left of them as they are taken away. */
  private static List<Long> askRows(CrustCrumb x) {
    List<Long> all = new ArrayList<>();
    for (int n = x.count(0); n >= 0; n--) {
      all.add((long) x.wipe(n));
      if (n > 0) all.add((long) lastMark(x, x.rule(1)));
    }
    for (int n = x.count(1); n >= 0; n--) {
      all.add((long) x.forget(n));
      for (int w = 0; w < 3; w++) all.add((long) x.begins(w));
    }
    return all;
  }

  private static List<Long> askImage(CrustCrumb x, int k) {
    List<Long> all = new ArrayList<>();
    all.add((long) x.back(k));
    all.addAll(ask(x));
    return all;
  }

  private static List<Long> askImageRows(CrustCrumb x, int k) {
    x.back(k);
    return askRows(x);
  }

  /** CELLS from f on, by the MARKS that are read of them. */
  private static List<Long> askSheet(CrustCrumb x, int k, int f) {
    List<Long> all = new ArrayList<>();
    for (int lane = 0; lane < 3; lane++) {
      for (int i = f; i < f + 10; i++) {
        x.wipe(0);
        int came = x.read(k, lane, i, 1);
        all.add((long) came);
        all.add((long) x.torn());
        if (came == 1) {
          x.read(k, lane, i, 2);
          all.add((long) x.count(0));
          all.add((long) x.mark(i));
          all.add((long) x.mark(i + 1));
        }
      }
    }
    return all;
  }

  private static List<Long> askTape(CrustCrumb x) {
    List<Long> all = new ArrayList<>();
    all.add((long) x.text());
    all.addAll(ask(x));
    return all;
  }

  private static void same(String what, List<Long> got, List<Long> want) {
    due("what is asked " + what + " (of " + want.size() + ")", firstOther(got, want), -1);
  }

  private static int firstOther(List<Long> got, List<Long> want) {
    for (int i = 0; i < want.size(); i++) {
      if (i >= got.size() || !got.get(i).equals(want.get(i))) return i;
    }
    return got.size() == want.size() ? -1 : want.size();
  }

  private static void changesNothing(String state, String name, Consumer<CrustCrumb> call) {
    List<ToList> asks = new ArrayList<>();
    asks.add(RefusalsTest::ask);
    asks.add(RefusalsTest::askRows);
    asks.add(RefusalsTest::askTape);
    for (int k = 0; k < 2; k++) {
      int image = k;
      asks.add(x -> askImage(x, image));
      asks.add(x -> askImageRows(x, image));
    }
    for (int k = 0; k < 4; k++) {
      int sheet = k;
      for (int f = 0; f < 40; f += 10) {
        int from = f;
        asks.add(x -> askSheet(x, sheet, from));
      }
    }
    for (int i = 0; i < asks.size(); i++) {
      CrustCrumb with = in(state), without = in(state);
      call.accept(with);
      same(i + " behind " + name + " in " + state, asks.get(i).of(with), asks.get(i).of(without));
    }
  }

  interface ToList {
    List<Long> of(CrustCrumb x);
  }

  // ---- the calls that are refused in every state

  private static List<Asking> refusals() {
    List<Asking> all = new ArrayList<>();
    int[] out = {-1, LOW, HIGH};
    for (int v : out) {
      all.add(new Asking("end(" + v + ")", x -> x.end(v)));
      all.add(new Asking("rule(" + v + ")", x -> x.rule(v)));
      all.add(new Asking("corner(" + v + ", 0)", x -> x.corner(v, 0)));
      all.add(new Asking("corner(0, " + v + ")", x -> x.corner(0, v)));
      all.add(new Asking("share(" + v + ")", x -> x.share(v)));
      all.add(new Asking("move(" + v + ", 1)", x -> x.move(v, 1)));
      all.add(new Asking("move(3, " + v + ")", x -> x.move(3, v)));
      all.add(new Asking("turn(" + v + ")", x -> x.turn(v)));
      all.add(new Asking("eat(" + v + ")", x -> x.eat(v)));
      all.add(new Asking("give(" + v + ", 1)", x -> x.give(v, 1)));
      all.add(new Asking("give(0, " + v + ")", x -> x.give(0, v)));
      all.add(new Asking("join(" + v + ")", x -> x.join(v)));
      all.add(new Asking("put(" + v + ", 1)", x -> x.put(v, 1)));
      all.add(new Asking("put(3, " + v + ")", x -> x.put(3, v)));
      all.add(new Asking("mark(" + v + ")", x -> x.mark(v)));
      all.add(new Asking("wipe(" + v + ")", x -> x.wipe(v)));
      all.add(new Asking("see(" + v + ", 0)", x -> x.see(v, 0, true)));
      all.add(new Asking("see(0, " + v + ")", x -> x.see(0, v, true)));
      all.add(new Asking("forget(" + v + ")", x -> x.forget(v)));
      all.add(new Asking("keep(" + v + ")", x -> x.keep(v)));
      all.add(new Asking("back(" + v + ")", x -> x.back(v)));
      all.add(new Asking("sheet(" + v + ", 0, 1)", x -> x.sheet(v, 0, 1)));
      all.add(new Asking("sheet(0, " + v + ", 1)", x -> x.sheet(0, v, 1)));
      all.add(new Asking("lay(" + v + ", 0, 1)", x -> x.lay(v, 0, 1)));
      all.add(new Asking("read(" + v + ", 0, 0, 1)", x -> x.read(v, 0, 0, 1)));
      all.add(new Asking("read(0, " + v + ", 0, 1)", x -> x.read(0, v, 0, 1)));
      all.add(new Asking("read(0, 0, 0, " + v + ")", x -> x.read(0, 0, 0, v)));
    }
    all.add(new Asking("end(321)", x -> x.end(321)));
    all.add(new Asking("turn(48)", x -> x.turn(48)));
    all.add(new Asking("eat(48)", x -> x.eat(48)));
    all.add(new Asking("move(0, 0)", x -> x.move(0, 0)));
    all.add(new Asking("move(12, 12)", x -> x.move(12, 12)));
    all.add(new Asking("put(0, 0)", x -> x.put(0, 0)));
    all.add(new Asking("put(12, 12)", x -> x.put(12, 12)));
    all.add(new Asking("give(0, 0)", x -> x.give(0, 0)));
    all.add(new Asking("give(0, 10)", x -> x.give(0, 10)));
    all.add(new Asking("give(6, 1)", x -> x.give(6, 1)));
    all.add(new Asking("join(0)", x -> x.join(0)));
    all.add(new Asking("join(10)", x -> x.join(10)));
    all.add(new Asking("mark(48)", x -> x.mark(48)));
    all.add(new Asking("wipe(7)", x -> x.wipe(7)));
    all.add(new Asking("see(8, 0)", x -> x.see(8, 0, true)));
    all.add(new Asking("see(0, 6)", x -> x.see(0, 6, true)));
    all.add(new Asking("forget(9)", x -> x.forget(9)));
    all.add(new Asking("keep(2)", x -> x.keep(2)));
    all.add(new Asking("back(2)", x -> x.back(2)));
    all.add(new Asking("sheet(4, 0, 1)", x -> x.sheet(4, 0, 1)));
    all.add(new Asking("sheet(0, 3, 1)", x -> x.sheet(0, 3, 1)));
    all.add(new Asking("sheet(0, 0, 41)", x -> x.sheet(0, 0, 41)));
    all.add(new Asking("lay(4, 0, 1)", x -> x.lay(4, 0, 1)));
    all.add(new Asking("read(4, 0, 0, 1)", x -> x.read(4, 0, 0, 1)));
    all.add(new Asking("read(0, 3, 0, 1)", x -> x.read(0, 3, 0, 1)));
    all.add(new Asking("read(0, 0, 0, 7)", x -> x.read(0, 0, 0, 7)));
    return all;
  }

  private static void refusedEverywhere() {
    sentence("BAD .. what is refused changes nothing");
    for (String state : STATES) {
      for (Asking a : refusals()) {
        due(a.name + " in " + state, a.call.applyAsLong(in(state)), BAD);
        changesNothing(state, a.name, a.call::applyAsLong);
      }
    }
  }

  private static void refusedIn(String state, String name, long want, ToLongFunction<CrustCrumb> call) {
    due(name + " in " + state, call.applyAsLong(in(state)), want);
    changesNothing(state, name, call::applyAsLong);
  }

  private static void refusedInSome() {
    sentence("FULL .. what is refused changes nothing");
    refusedIn("full", "feed()", FULL, x -> x.feed(0x6f6e6520393b2020L));
    refusedIn("full", "join(9)", FULL, x -> x.join(9));
    refusedIn("full", "put(6, 7)", FULL, x -> x.put(6, 7));
    refusedIn("full", "mark(37)", FULL, x -> x.mark(37));
    refusedIn("full", "see(3, 3, true)", FULL, x -> x.see(3, 3, true));

    sentence("STATE .. what is refused changes nothing");
    refusedIn("new", "back(0)", STATE, x -> x.back(0));
    refusedIn("new", "back(1)", STATE, x -> x.back(1));
    refusedIn("half", "back(0)", STATE, x -> x.back(0));
    refusedIn("faulty", "back(1)", STATE, x -> x.back(1));
    for (int w = 0; w < 2; w++) {
      int what = w;
      refusedIn("new", "off(" + w + ")", STATE, x -> x.off(what));
      refusedIn("new", "told(" + w + ")", STATE, x -> x.told(what));
      refusedIn("new", "best(" + w + ")", STATE, x -> x.best(what));
      refusedIn("new", "centre(" + w + ")", STATE, x -> x.centre(what));
    }

    sentence("the machine's FAULTS .. what is refused changes nothing");
    for (String state : STATES) {
      refusedIn(state, "sheet(0, 0, -1)", -14, x -> x.sheet(0, 0, -1));
      refusedIn(state, "sheet(3, 2, LOW)", -14, x -> x.sheet(3, 2, LOW));
    }
    refusedIn("new", "lay(0, 0, 5)", -11, x -> x.lay(0, 0, 5));
    refusedIn("half", "lay(0, 0, 5)", -11, x -> x.lay(0, 0, 5));
    refusedIn("half", "lay(1, 5, 5)", -12, x -> x.lay(1, 5, 5));
    refusedIn("half", "lay(1, -1, 5)", -12, x -> x.lay(1, -1, 5));
    refusedIn("full", "lay(3, 40, 5)", -12, x -> x.lay(3, 40, 5));
    refusedIn("faulty", "lay(3, 0, 5)", -12, x -> x.lay(3, 0, 5));

    sentence("just outside of what there is: what is refused changes nothing");
    refusedIn("half", "end(16)", BAD, x -> x.end(16));
    refusedIn("half", "turn(12)", BAD, x -> x.turn(12));
    refusedIn("half", "eat(12)", BAD, x -> x.eat(12));
    refusedIn("half", "give(2, 1)", BAD, x -> x.give(2, 1));
    refusedIn("half", "mark(7)", BAD, x -> x.mark(7));
    refusedIn("half", "mark(12)", BAD, x -> x.mark(12));
    refusedIn("half", "wipe(3)", BAD, x -> x.wipe(3));
    refusedIn("half", "see(3, 0)", BAD, x -> x.see(3, 0, true));
    refusedIn("half", "see(0, 2)", BAD, x -> x.see(0, 2, true));
    refusedIn("half", "forget(3)", BAD, x -> x.forget(3));
    refusedIn("half", "put(1, 1)", BAD, x -> x.put(1, 1));
    refusedIn("half", "move(1, 1)", BAD, x -> x.move(1, 1));
    refusedIn("full", "mark(31)", BAD, x -> x.mark(31));
    refusedIn("full", "turn(38)", BAD, x -> x.turn(38));

    sentence("-20 less i: MARK i is refused by mark(): then none came");
    refusedIn("full", "read(0, 0, 36, 1)", -20, x -> x.read(0, 0, 36, 1));
    refusedIn("full", "read(1, 1, 0, 6)", -20, x -> x.read(1, 1, 0, 6));
    refusedIn("half", "read(1, 1, 0, 5)", -24, x -> x.read(1, 1, 0, 5));
    refusedIn("half", "read(1, 1, 3, 6)", -21, x -> x.read(1, 1, 3, 6));
    refusedIn("faulty", "read(0, 2, 0, 2)", -20, x -> x.read(0, 2, 0, 2));
  }

  private static void refusedTexts() {
    sentence("-10 less the place of its FAULT: that which was told stays (but THE TAPE, as told)");
    String[] texts = {"?", "one", THREE + "one 0;", "one 1;one 2;begin 1;begin", "cherry 1 1;".repeat(8) + "cherry", "corner 1 1;one 9;",
        "corner 0 0;corner 0 6;corner 6 6;one 9;", "corner 0 0;corner 6 0;corner 6 6;", "one 9;cherry 1 1;middle 0 0;", "gone 5;begin 24;"};
    for (String state : STATES) {
      for (int i = 0; i < 10; i++) {
        refusedText(state, texts[i], i + 1);
      }
    }
  }

  private static CrustCrumb behind(String state, String text) {
    CrustCrumb x = in(state);
    x.end(0);
    if (text.isEmpty()) return x;
    write(x, text);
    x.text();
    return x;
  }

  private static void refusedText(String state, String text, int fault) {
    CrustCrumb x = in(state);
    x.end(0);
    write(x, text);
    due("text() of " + text + " is refused", x.text() <= -10 ? 1 : 0, 1);
    due("fault() of " + text, x.fault(), fault);
    due("bytes behind " + text, x.count(3), 0);
    String what = "behind " + text + " in " + state;
    List<Long> want = ask(behind(state, ""));
    // the FAULT is the last but one
    want.set(want.size() - 2, (long) fault);
    same(what, ask(behind(state, text)), want);
    same("of rows " + what, askRows(behind(state, text)), askRows(behind(state, "")));
    for (int k = 0; k < 2; k++) {
      same("of IMAGE " + k + " " + what, askImageRows(behind(state, text), k), askImageRows(behind(state, ""), k));
      same("of SHEET " + k + " " + what, askSheet(behind(state, text), k, 0), askSheet(behind(state, ""), k, 0));
    }
  }

  /** What an IMAGE brings back is as it was when it was kept, whatever came behind. */
  private static void images() {
    sentence("Promise 37: IMAGE k (0, 1) is the MIDDLE, BEGIN, GONE, PEOPLE, CHERRIES, MARKS, what was SEEN; Promise 38: All is as IMAGE k");
    for (int k = 0; k < 2; k++) {
      for (ToList ask : List.<ToList>of(RefusalsTest::ask, RefusalsTest::askRows)) {
        CrustCrumb empty = new CrustCrumb(), first = new CrustCrumb(), second = new CrustCrumb();
        tellFirst(first);
        tellSecond(second);
        same("of the first", ask.of(withImages(k, 1 - k)), withTwoImages(ask, first));
        same("of the second", ask.of(withImages(k, k)), withTwoImages(ask, second));
        CrustCrumb x = new CrustCrumb();
        x.keep(0);
        tellFirst(x);
        x.keep(1);
        x.back(0);
        same("of the empty one", ask.of(x), withTwoImages(ask, empty));
      }
    }
  }

  /** IMAGE 1 - k is the first, IMAGE k the second; all is as IMAGE last. */
  private static CrustCrumb withImages(int k, int last) {
    CrustCrumb x = new CrustCrumb();
    x.keep(k);
    tellFirst(x);
    x.keep(1 - k);
    x.back(k);
    tellSecond(x);
    x.keep(k);
    x.back(1 - k);
    x.turn(20);
    x.back(last);
    return x;
  }

  /** What is asked first of an object that is kept as both, so that it has as many IMAGES. */
  private static List<Long> withTwoImages(ToList ask, CrustCrumb x) {
    x.keep(0);
    x.keep(1);
    return ask.of(x);
  }

  private static void tellFirst(CrustCrumb x) {
    x.join(1);
    x.join(1);
    x.join(2);
    x.put(1, 1);
    x.put(3, 1);
    x.put(4, 5);
    x.mark(5);
    x.mark(11);
    x.mark(17);
    x.see(1, 0, true);
    x.see(2, 1, false);
  }

  /** No row of it is as that of the first. */
  private static void tellSecond(CrustCrumb x) {
    x.move(2, 4);
    x.turn(7);
    x.eat(2);
    x.join(4);
    x.join(7);
    x.join(3);
    x.put(3, 2);
    x.put(3, 4);
    x.put(3, 5);
    x.mark(2);
    x.mark(9);
    x.mark(23);
    x.see(3, 2, false);
    x.see(0, 1, true);
  }

  private static void asking() {
    sentence("'pieces', 'circles', 'nearest', 'cherries', told, begins, rule, corner, share, fault, torn, count: what only asks changes nothing");
    for (String state : STATES) {
      changesNothing(state, "all that only asks", RefusalsTest::ask);
      changesNothing(state, "round()", x -> {
        for (int i = -1; i <= 13; i++) x.round(i, i);
      });
    }

    sentence("torn(): 'that came to an end': a read() that is BAD or refused leaves it");
    CrustCrumb x = in("faulty");
    due("torn()", x.torn(), 2);
    x.read(0, 0, 0, 7);
    x.read(0, 2, 0, 2);
    due("torn() stays", x.torn(), 2);
    for (int fault = 0; fault <= 3; fault++) {
      tornBy(fault, "BAD", y -> y.read(4, 0, 0, 1), BAD);
      tornBy(fault, "BAD", y -> y.read(0, 3, 0, 1), BAD);
      tornBy(fault, "BAD", y -> y.read(0, 0, 0, 7), BAD);
      tornBy(fault, "refused", y -> y.read(0, 0, 0, 1), -20);
      tornBy(fault, "refused behind one that came", y -> y.read(0, 0, 1, 2), -21);
      tornBy(fault, "ended, nothing read", y -> y.read(0, 0, 0, 0), 0);
    }
  }

  /** A read() that ends with the FAULT, then another: torn() is of the first, if the other did not come to an end. */
  private static void tornBy(int fault, String how, ToIntFunction<CrustCrumb> read, int answer) {
    CrustCrumb y = new CrustCrumb();
    y.sheet(0, 0, 3);
    y.lay(0, 0, -1);
    y.lay(0, 1, 5);
    y.lay(0, 2, 5);
    switch (fault) {
      case 1 -> y.read(1, 0, 0, 1);
      case 2 -> y.read(0, 0, 3, 1);
      case 3 -> y.read(0, 1, 0, 1);
      default -> y.read(0, 0, 0, 0);
    }
    due("torn()", y.torn(), fault);
    due("read(), " + how, read.applyAsInt(y), answer);
    due("torn() behind a read() that " + how, y.torn(), answer < 0 ? fault : 0);
    due("MARKS", y.count(0), 0);
  }

  public static void main(String[] args) {
    refusedEverywhere();
    refusedInSome();
    refusedTexts();
    images();
    asking();
    tellAll();
  }
}
