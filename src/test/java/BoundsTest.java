/** Promise by promise, the bounds that each of them names: just within, just outside, empty, full, round the end. */
public final class BoundsTest extends Asked {
  private static CrustCrumb people(int many) {
    return cake("one 2;".repeat(many));
  }

  private static CrustCrumb taped(int bytes) {
    CrustCrumb x = new CrustCrumb();
    for (int i = 0; i < 40; i++) x.feed(0x2020202020202020L);
    x.end(bytes);
    return x;
  }

  private static CrustCrumb marked(int many) {
    CrustCrumb x = new CrustCrumb();
    for (int i = 0; i < many; i++) x.mark(i);
    return x;
  }

  private static CrustCrumb seen(int many) {
    CrustCrumb x = people(1);
    for (int i = 0; i < many; i++) x.see(i % 4, 0, true);
    return x;
  }

  // ---- the text

  private static void newObject() {
    sentence("Promise 1: The square, its MIDDLE, nobody; SHEETS of nothing");
    CrustCrumb x = new CrustCrumb();
    int[] rules = {4, 24, 72, 303, 0, 0, 0, 0};
    for (int i = 0; i < 8; i++) due("rule(" + i + ")", x.rule(i), rules[i]);
    int[] counts = {0, 0, 0, 0, NONE, 0};
    for (int i = 0; i < 6; i++) due("count(" + i + ")", x.count(i), counts[i]);
    for (int k = 0; k < 4; k++) {
      for (int lane = 0; lane < 3; lane++) {
        due("read() of nothing", x.read(k, lane, 0, 1), 0);
        due("torn()", x.torn(), 1);
      }
    }
    due("fault()", x.fault(), 0);
    due("torn()", new CrustCrumb().torn(), 0);
    due("share(0)", x.share(0), BAD);
    // what one object is told another does not know
    CrustCrumb y = Full.make();
    y.sheet(0, 0, 5);
    y.keep(0);
    for (int i = 0; i < 8; i++) due("rule(" + i + ") beside another", x.rule(i), rules[i]);
    for (int i = 0; i < 6; i++) due("count(" + i + ") beside another", x.count(i), counts[i]);
  }

  private static void feeds() {
    sentence("Promise 2: Eight bytes come behind THE TAPE, the highest first: how many it has");
    CrustCrumb x = new CrustCrumb();
    due("feed()", x.feed(0x6f6e6520313b6f6eL), 8);
    due("feed() behind", x.feed(0x6520323b67617465L), 16);
    x.end(12);
    due("feed() behind 12", x.feed(0x6f6e6520333b2020L), 20);
    due("text()", x.text(), 3);
    for (int p = 0; p < 3; p++) due("share(" + p + ")", x.share(p), p + 1);
    // each of the eight places, by the place of its fault; the highest bit makes no other byte of it
    for (int i = 0; i < 8; i++) {
      for (int b : new int[] {0, 63, 127, 128, 160, 255}) {
        CrustCrumb y = new CrustCrumb();
        long blanks = 0x2020202020202020L & ~(255L << 56 - 8 * i);
        y.feed(blanks | (long) b << 56 - 8 * i);
        due("text() with " + b + " at " + i, y.text(), -10 - i);
        due("fault()", y.fault(), 1);
      }
    }
    due("feed() of nothing but ones", new CrustCrumb().feed(-1L), 8);

    sentence("Promise 2: FULL: more than 320");
    for (int had = 300; had <= 320; had++) {
      CrustCrumb y = taped(had);
      due("feed() behind " + had, y.feed(0), had <= 312 ? had + 8 : FULL);
      due("bytes", y.count(3), had <= 312 ? had + 8 : had);
    }
    CrustCrumb y = taped(313);
    y.feed(0x3f3f3f3f3f3f3f3fL);
    due("text(): nothing of what was refused", y.text(), 0);
  }

  private static void ends() {
    sentence("Promise 3: THE TAPE keeps its first n bytes: how many it had. BAD");
    for (int had : new int[] {0, 1, 8, 319, 320}) {
      only("end() of " + had, 0, had, () -> taped(had), (x, n) -> x.end(n));
      CrustCrumb x = taped(had);
      due("end(" + had + "), all", x.end(had), had);
      due("bytes", x.count(3), had);
      due("end(0), nothing", x.end(0), had);
      due("bytes", x.count(3), 0);
      due("end(0), of nothing", x.end(0), 0);
      due("end(1), of nothing", x.end(1), BAD);
    }
    CrustCrumb x = new CrustCrumb();
    write(x, "one 5;??");
    due("end(6)", x.end(6), 8);
    due("end(7)", x.end(7), BAD);
    due("text()", x.text(), 1);
  }

  /** A text that is ended early is read as if the rest had never been there. */
  private static void endedEarly() {
    sentence("Promise 3: THE TAPE keeps its first n bytes; 2 .. the end: the length");
    String text = "cherry 1 2; begin 12;gone 11;ones 1;one 123;";
    for (int n = 0; n <= text.length(); n++) {
      CrustCrumb x = new CrustCrumb(), y = new CrustCrumb();
      write(x, text);
      x.end(n);
      write(y, text.substring(0, n));
      due("text() of the first " + n, x.text(), y.text());
      due("fault() of the first " + n, x.fault(), y.fault());
      due("rule(4) of the first " + n, x.rule(4), y.rule(4));
    }
    CrustCrumb x = new CrustCrumb();
    write(x, "ones");
    x.end(3);
    due("text() of one, an s taken away", x.text(), -13);
    write(x, "begin 23;");
    x.end(7);
    x.feed(0x3b20202020202020L);
    due("text() of begin 2;", x.text(), 1);
    due("BEGIN", x.rule(4), 2);
  }

  private static void texts() {
    sentence("Promise 4: THE TAPE (empty then) tells all: how many lines");
    CrustCrumb x = new CrustCrumb();
    for (int many = 0; many <= 6; many++) {
      write(x, "one 1;".repeat(many));
      due("text()", x.text(), many);
      due("bytes", x.count(3), 0);
      due("PEOPLE", x.rule(6), many);
    }
    due("text() of nothing tells all", x.text(), 0);
    due("PEOPLE", x.rule(6), 0);

    sentence("Promise 4: -10 less the place of its FAULT: that which was told stays");
    for (int place = 0; place <= 319; place += 11) {
      x = cake("one 7;");
      write(x, " ".repeat(place) + "?");
      due("text()", x.text(), -10 - place);
      due("bytes", x.count(3), 0);
      due("share(0)", x.share(0), 7);
    }
    // not the half of it
    x = cake("one 7;begin 3;");
    write(x, "begin 4;one 8;one 9;gone 1;cherry 1 1;middle 2 2;gone");
    due("text()", x.text(), -10 - 49);
    int[] rules = {4, 24, 72, 303, 3, 0, 1, 0};
    for (int i = 0; i < 8; i++) due("rule(" + i + ")", x.rule(i), rules[i]);
    due("share(0)", x.share(0), 7);

    sentence("Promise 5: The FAULT of the latest text(); 0");
    x = new CrustCrumb();
    due("fault(), no text yet", x.fault(), 0);
    String[] texts = {"?", "one", "one 0;", "gone 1;gone", "one 1;".repeat(6) + "one", "corner 1 1;",
        "corner 0 0;corner 0 6;corner 6 6;", "corner 0 0;corner 6 0;corner 6 6;", "middle 0 0;", "begin 24;"};
    for (int i = 0; i < 10; i++) {
      write(x, texts[i]);
      due("text() of " + texts[i] + " is refused", x.text() <= -10 ? 1 : 0, 1);
      due("fault() of " + texts[i], x.fault(), i + 1);
      x.feed(0);
      x.end(0);
      due("fault() stays", x.fault(), i + 1);
    }
    due("text()", x.text(), 0);
    due("fault() of a text that is taken", x.fault(), 0);
  }

  private static void rules() {
    sentence("Promise 6: 0 CORNERS .. 7 CHERRIES. BAD");
    only("rule()", 0, 7, CrustCrumb::new, (x, what) -> x.rule(what));
    only("rule() of all", 0, 7, Full::make, (x, what) -> x.rule(what));
    due("the MIDDLE, 11 11", cake(LARGE + "middle 11 11;").rule(3), 1111);
    due("the MIDDLE, 1 11", cake(LARGE + "middle 1 11;").rule(3), 111);

    sentence("Promise 7: Of a CORNER: 0 x, 1 y, 2 the LENGTH of the SIDE that begins there, 3 its place on the RIM. BAD");
    String[] texts = {THREE, "", EIGHT};
    int[] corners = {3, 4, 8};
    for (int t = 0; t < 3; t++) {
      String text = texts[t];
      for (int what = 0; what < 4; what++) {
        int w = what;
        only("corner(i, " + what + ")", 0, corners[t] - 1, () -> cake(text), (x, i) -> x.corner(i, w));
      }
      for (int i = 0; i < corners[t]; i++) {
        int c = i;
        only("corner(" + i + ", what)", 0, 3, () -> cake(text), (x, w) -> x.corner(c, w));
      }
    }
    due("corner(3, 4), neither", cake(THREE).corner(3, 4), BAD);
    CrustCrumb x = cake(LARGE);
    int[] last = {0, 12, 12, 36};
    for (int what = 0; what < 4; what++) due("corner(3, " + what + ")", x.corner(3, what), last[what]);
    // behind a cake of more corners
    x = cake(EIGHT);
    write(x, THREE);
    x.text();
    for (int i = 3; i < 8; i++) due("corner(" + i + ", 0), no more", x.corner(i, 0), BAD);

    sentence("Promise 8: SHARE of a ONE. BAD");
    for (int many = 0; many <= 6; many++) {
      int n = many;
      only("share() of " + many, 0, many - 1, () -> people(n), (y, p) -> y.share(p));
    }
  }

  // ---- what is changed

  private static void changes() {
    sentence("Promise 9: The MIDDLE becomes a point: 100 x and y of what it was. BAD: also not INSIDE");
    for (int y = 1; y <= 5; y++) {
      int at = y;
      only("move(x, " + y + ")", 1, 5, CrustCrumb::new, (x, v) -> x.move(v, at));
      only("move(" + y + ", y)", 1, 5, CrustCrumb::new, (x, v) -> x.move(at, v));
    }
    CrustCrumb x = cake(LARGE);
    due("move(11, 1)", x.move(11, 1), 303);
    due("move(1, 11)", x.move(1, 11), 1101);
    due("move(1, 11), where it is", x.move(1, 11), 111);
    due("move(12, 11)", x.move(12, 11), BAD);
    due("the MIDDLE", x.rule(3), 111);

    sentence("Promise 10: BEGIN becomes b: what it was. BAD");
    only("turn()", 0, 23, CrustCrumb::new, (y, b) -> y.turn(b));
    x = new CrustCrumb();
    due("turn(23)", x.turn(23), 0);
    due("turn(24)", x.turn(24), BAD);
    due("turn(23), where it is", x.turn(23), 23);
    due("turn(0)", x.turn(0), 23);

    sentence("Promise 11: GONE becomes g: what it was. BAD");
    only("eat()", 0, 23, CrustCrumb::new, (y, g) -> y.eat(g));
    x.turn(5);
    due("eat(23)", x.eat(23), 0);
    due("eat(24)", x.eat(24), BAD);
    due("eat(-1)", x.eat(-1), BAD);
    due("eat(0)", x.eat(0), 23);
    due("BEGIN", x.rule(4), 5);

    sentence("Promise 12: SHARE of a ONE becomes v: what it was. BAD");
    only("give(0, v)", 1, 9, () -> people(1), (y, v) -> y.give(0, v));
    only("give(5, v)", 1, 9, () -> people(6), (y, v) -> y.give(5, v));
    for (int many = 0; many <= 6; many++) {
      int n = many;
      only("give(p, 1) of " + many, 0, many - 1, () -> people(n), (y, p) -> y.give(p, 1));
    }
    x = people(2);
    due("give(1, 9)", x.give(1, 9), 2);
    due("give(1, 10)", x.give(1, 10), BAD);
    due("give(1, 1)", x.give(1, 1), 9);
    due("share(0)", x.share(0), 2);
    due("share(1)", x.share(1), 1);

    sentence("Promise 13: A ONE more: how many there are. BAD; FULL");
    for (int many = 0; many <= 5; many++) {
      int n = many;
      only("join() behind " + many, 1, 9, () -> people(n), (y, v) -> y.join(v));
      due("join(9) behind " + many, people(many).join(9), many + 1);
    }
    for (int v = -3; v <= 12; v++) due("join(" + v + ") behind 6", people(6).join(v), v < 1 || v > 9 ? BAD : FULL);

    sentence("Promise 14: A CHERRY more: how many there are. BAD: also not INSIDE; FULL");
    x = cake(LARGE);
    int[][] out = {{0, 6}, {12, 6}, {6, 0}, {6, 12}, {0, 0}, {12, 12}, {13, 6}, {6, 13}, {-1, 6}, {6, -1}};
    for (int i = 0; i <= 8; i++) {
      for (int[] p : out) due("put(" + p[0] + ", " + p[1] + ") behind " + i, x.put(p[0], p[1]), BAD);
      due("put(11, 1) behind " + i, x.put(11, 1), i < 8 ? i + 1 : FULL);
    }
    due("CHERRIES", x.rule(7), 8);
  }

  // ---- pieces

  private static void pieces() {
    sentence("Promises 15 to 19: place, crumb, crust, due, work: 0, 1. BAD");
    for (int many = 0; many <= 6; many++) {
      int n = many;
      for (int what = 0; what < 2; what++) {
        int w = what;
        only("place(p, " + what + ") of " + many, 0, many - 1, () -> people(n), (x, p) -> x.place(p, w));
        only("crumb(p, " + what + ") of " + many, 0, many - 1, () -> people(n), (x, p) -> x.crumb(p, w));
        only("crust(p, " + what + ") of " + many, 0, many - 1, () -> people(n), (x, p) -> x.crust(p, w));
        only("due(p, " + what + ") of " + many, 0, many - 1, () -> people(n), (x, p) -> x.due(p, w));
        only("work(p, 1, 1, " + what + ") of " + many, 0, many - 1, () -> people(n), (x, p) -> x.work(p, 1, 1, w));
      }
    }
    only("place(0, what)", 0, 1, () -> people(1), (x, w) -> x.place(0, w));
    only("crumb(0, what)", 0, 1, () -> people(1), (x, w) -> x.crumb(0, w));
    only("crust(0, what)", 0, 1, () -> people(1), (x, w) -> x.crust(0, w));
    only("due(0, what)", 0, 1, () -> people(1), (x, w) -> x.due(0, w));
    only("work(0, 1, 1, what)", 0, 1, () -> people(1), (x, w) -> x.work(0, 1, 1, w));

    sentence("Promise 15: (as the way is told, it may be behind RIM)");
    CrustCrumb x = cake("begin 23;gone 23;one 1;one 1;");
    fraction("place(0)", x.place(0, 0), x.place(0, 1), 46, 1);
    fraction("place(1)", x.place(1, 0), x.place(1, 1), 93, 2);
    x = cake("begin 12;one 1;one 1;");
    fraction("place(1) at RIM", x.place(1, 0), x.place(1, 1), 24, 1);
    x.turn(11);
    fraction("place(1) ahead of RIM", x.place(1, 0), x.place(1, 1), 23, 1);

    sentence("Promise 16: CRUMB of a PIECE, Promise 17: CRUST of a PIECE: the least and the greatest");
    x = cake(LARGE + "middle 1 1;gone 47;one 1;one 9;one 9;one 9;one 9;one 9;");
    // 1 of 46 parts of the last length, 1 from the middle
    fraction("crust(0)", x.crust(0, 0), x.crust(0, 1), 1, 46);
    fraction("crumb(0)", x.crumb(0, 0), x.crumb(0, 1), 1, 46);
    fraction("due(0)", x.due(0, 0), x.due(0, 1), 1, 46);
    x = cake(LARGE + "middle 1 1;one 1;");
    fraction("crust(0), all", x.crust(0, 0), x.crust(0, 1), 48, 1);
    fraction("crumb(0), all", x.crumb(0, 0), x.crumb(0, 1), 288, 1);
    fraction("due(0), all", x.due(0, 0), x.due(0, 1), 288, 1);

    // a side of 1, 4 from the middle, and another, 1 from it; behind them what an earlier cake had is not left
    CrustCrumb five = cake(LARGE + "middle 1 1;one 1;");
    five.crumb(0, 0);
    write(five, "corner 3 0;corner 4 0;corner 4 5;corner 0 5;corner 0 4;middle 1 4;begin 1;gone 15;one 1;");
    five.text();
    fraction("crumb(0) of a side of 1", five.crumb(0, 0), five.crumb(0, 1), 4, 1);
    five.turn(11);
    fraction("crumb(0) of another", five.crumb(0, 0), five.crumb(0, 1), 1, 1);

    sentence("Promise 19: WORK of a ONE (m, f 0 to 99)");
    only("work(0, m, 0, 0)", 0, 99, () -> people(1), (y, m) -> y.work(0, m, 0, 0));
    only("work(0, 0, f, 0)", 0, 99, () -> people(1), (y, f) -> y.work(0, 0, f, 0));
    only("work(0, 0, f, 1)", 0, 99, () -> people(1), (y, f) -> y.work(0, 0, f, 1));
    fraction("work(0, 99, 99), all", x.work(0, 99, 99, 0), x.work(0, 99, 99, 1), 99 * 288 + 99 * 48, 1);
    fraction("work(0, 1, 0), all", x.work(0, 1, 0, 0), x.work(0, 1, 0, 1), 288, 1);
    fraction("work(0, 0, 1), all", x.work(0, 0, 1, 0), x.work(0, 0, 1, 1), 48, 1);
    fraction("work(0, 0, 0), all", x.work(0, 0, 0, 0), x.work(0, 0, 0, 1), 0, 1);
  }

  private static void judges() {
    sentence("Promise 20: The first ONE whose PIECE has not its DUE (what 0); whether it has more (1: 1, 0). BAD; NONE: it is FAIR");
    only("judge()", 0, 1, () -> people(2), (x, what) -> x.judge(what));
    only("judge(), nobody", 0, 1, CrustCrumb::new, (x, what) -> x.judge(what));
    for (int many = 0; many <= 6; many++) {
      due("judge(0) of " + many + ", FAIR", people(many).judge(0), NONE);
      due("judge(1) of " + many + ", FAIR", people(many).judge(1), NONE);
    }
    // first, one between, and the one ahead of the last are the first that are off: if all ahead are not, the last is not
    CrustCrumb x = cake("middle 3 2;begin 6;gone 6;one 1;one 1;one 1;");
    // 24, 18, 12 where 18 is due
    due("judge(0), the first", x.judge(0), 0);
    due("judge(1), more", x.judge(1), 1);
    x.turn(18);
    // 12, 18, 24
    due("judge(0), the first", x.judge(0), 0);
    due("judge(1), less", x.judge(1), 0);
    x = cake("middle 3 2;begin 6;one 1;one 1;one 1;one 1;");
    due("judge(0), the second", x.judge(0), 1);
    due("judge(1), more", x.judge(1), 1);
    x.turn(18);
    due("judge(0), the second", x.judge(0), 1);
    due("judge(1), less", x.judge(1), 0);
    // one has it by a sixth of a length too little alone
    x = cake("middle 3 4;begin 3;one 1;one 1;");
    due("judge(0), just FAIR", x.judge(0), NONE);
    x.give(0, 9);
    x.give(1, 8);
    due("judge(0), not any more", x.judge(0), 0);

    sentence("Promise 21: OFF: 0, 1. BAD; STATE: there are no PEOPLE");
    only("off()", 0, 1, () -> people(2), (y, what) -> y.off(what));
    due("off(0), nobody", new CrustCrumb().off(0), STATE);
    due("off(1), nobody", new CrustCrumb().off(1), STATE);
    due("off(-1), nobody", new CrustCrumb().off(-1), BAD);
    due("off(2), nobody", new CrustCrumb().off(2), BAD);
    due("off(0), one alone", people(1).off(0), 0);
    due("off(1), one alone", people(1).off(1), 1);
  }

  // ---- circles

  private static void circles() {
    sentence("Promise 22: How far the MIDDLE is from a SIDE: 0, 1. BAD");
    String[] texts = {THREE, "", EIGHT};
    int[] sides = {3, 4, 8};
    for (int t = 0; t < 3; t++) {
      String text = texts[t];
      only("far(i, 0)", 0, sides[t] - 1, () -> cake(text), (x, i) -> x.far(i, 0));
      only("far(i, 1)", 0, sides[t] - 1, () -> cake(text), (x, i) -> x.far(i, 1));
      only("far(0, what)", 0, 1, () -> cake(text), (x, w) -> x.far(0, w));
    }
    CrustCrumb x = cake(THREE);
    x.move(3, 2);
    // the least there is: 1 by 5
    fraction("far(2)", x.far(2, 0), x.far(2, 1), 1, 5);
    fraction("far(0)", x.far(0, 0), x.far(0, 1), 2, 1);
    fraction("far(1)", x.far(1, 0), x.far(1, 1), 1, 1);
    x = cake(LARGE + "middle 11 11;");
    int[] far = {11, 1, 1, 11};
    for (int i = 0; i < 4; i++) fraction("far(" + i + ")", x.far(i, 0), x.far(i, 1), far[i], 1);

    sentence("Promise 23: Whether a circle FITS round a point (1, 0: also not INSIDE). BAD");
    for (int v = 0; v <= 12; v++) {
      int at = v;
      only("round(x, " + v + ")", 0, 12, CrustCrumb::new, (y, w) -> y.round(w, at));
      only("round(" + v + ", y)", 0, 12, CrustCrumb::new, (y, w) -> y.round(at, w));
    }
    CrustCrumb square = new CrustCrumb(), three = cake(THREE), oblong = cake("corner 0 0;corner 6 0;corner 6 4;corner 0 4;");
    for (int i = 0; i <= 12; i++) {
      for (int k = 0; k <= 12; k++) {
        due("round(" + i + ", " + k + ")", square.round(i, k), i == 3 && k == 3 ? 1 : 0);
        due("round(" + i + ", " + k + ") of three", three.round(i, k), i == 3 && k == 1 ? 1 : 0);
        due("round(" + i + ", " + k + ") of an oblong", oblong.round(i, k), 0);
      }
      // 512 calls for each object
      square = new CrustCrumb();
      three = cake(THREE);
      oblong = cake("corner 0 0;corner 6 0;corner 6 4;corner 0 4;");
    }
    // as far from three of four sides
    due("round(2, 2) of an oblong", cake("corner 0 0;corner 4 0;corner 4 6;corner 0 6;").round(2, 2), 0);
    due("round(2, 4) of an oblong", cake("corner 0 0;corner 4 0;corner 4 6;corner 0 6;").round(2, 4), 0);

    sentence("Promise 24: how many (what 0), the first by x, then y (1: 100 x and y). BAD; NONE (1): none");
    only("rounds()", 0, 1, CrustCrumb::new, (y, what) -> y.rounds(what));
    only("rounds(), none", 0, 1, () -> cake("corner 0 0;corner 6 0;corner 6 4;corner 0 4;"), (y, what) -> y.rounds(what));
    due("rounds(0), none", oblong.rounds(0), 0);
    due("rounds(1), none", oblong.rounds(1), NONE);
    due("rounds(0)", new CrustCrumb().rounds(0), 1);
    due("rounds(1)", new CrustCrumb().rounds(1), 303);
    due("rounds(1) of the smallest", cake(SMALL).rounds(1), 303);
    due("rounds(1) of the largest", cake(LARGE).rounds(1), 606);
    due("rounds(1), at the edge", cake("corner 10 10;corner 12 10;corner 12 12;corner 10 12;middle 11 11;").rounds(1), 1111);
    due("rounds(1), at the other", cake("corner 0 0;corner 2 0;corner 2 2;corner 0 2;middle 1 1;").rounds(1), 101);
    due("rounds(0), not a whole point", cake("corner 2 2;corner 5 2;corner 5 5;corner 2 5;").rounds(0), 0);
  }

  // ---- nearest: of the square, by lengths of 1 by the sum of SHARES

  /** OFF times the SHARES' sum, twice over, of the square with its MIDDLE at x y. */
  private static long offOfSquare(int x, int y, int begin, int gone, int[] shares) {
    int[] far = {y, 6 - x, 6 - y, x};
    int sum = 0;
    for (int s : shares) sum += s;
    long all = 0, greatest = 0;
    long[] crumbs = new long[shares.length];
    int at = (begin + gone) * sum;
    for (int p = 0; p < shares.length; p++) {
      for (int i = 0; i < (24 - gone) * shares[p]; i++) {
        crumbs[p] += far[at / sum % 24 / 6];
        at++;
      }
      all += crumbs[p];
    }
    for (int p = 0; p < shares.length; p++) greatest = Math.max(greatest, Math.abs(crumbs[p] * sum - all * shares[p]));
    return greatest;
  }

  private static void nearest(int x, int y, int begin, int gone, int[] shares) {
    StringBuilder text = new StringBuilder("middle " + x + " " + y + ";begin " + begin + ";gone " + gone + ";");
    long sum = 0;
    for (int s : shares) {
      text.append("one ").append(s).append(';');
      sum += s;
    }
    CrustCrumb c = cake(text.toString());
    long least = Long.MAX_VALUE;
    int best = -1, centre = -1;
    for (int b = 0; b < 24; b++) {
      long off = offOfSquare(x, y, b, gone, shares);
      if (off < least) {
        least = off;
        best = b;
      }
    }
    due("best(0) of " + text, c.best(0), best);
    due("best(1) by best(2) of " + text, c.best(1) * sum * sum, least * c.best(2));
    least = Long.MAX_VALUE;
    for (int i = 1; i <= 5; i++) {
      for (int k = 1; k <= 5; k++) {
        long off = offOfSquare(i, k, begin, gone, shares);
        if (off < least) {
          least = off;
          centre = 100 * i + k;
        }
      }
    }
    due("centre(0) of " + text, c.centre(0), centre);
    due("centre(1) by centre(2) of " + text, c.centre(1) * sum * sum, least * c.centre(2));
    due("off(0) by off(1) of " + text, c.off(0) * sum * sum, offOfSquare(x, y, begin, gone, shares) * c.off(1));
    due("judge(0) is NONE of " + text, c.judge(0) == NONE ? 1 : 0, c.off(0) == 0 ? 1 : 0);
    due("BEGIN", c.rule(4), begin);
    due("GONE", c.rule(5), gone);
    due("the MIDDLE", c.rule(3), 100 * x + y);
  }

  private static void nearest() {
    sentence("Promise 25: The BEGIN (GONE as it is) by which OFF is least, of several the least; Promise 26: of several the first by x, then y");
    int[][] shares = {{1}, {1, 1}, {1, 2}, {3, 1}, {1, 1, 1}, {1, 2, 3}, {1, 1, 1, 1}, {9, 9}, {1, 1, 1, 1, 1, 1}};
    for (int[] s : shares) {
      for (int at = 0; at < 25; at++) {
        nearest(1 + at / 5, 1 + at % 5, at % 24, 0, s);
        nearest(1 + at / 5, 1 + at % 5, (at * 7) % 24, (at * 5) % 24, s);
      }
      nearest(2, 1, 23, 23, s);
      nearest(5, 4, 0, 23, s);
    }

    sentence("Promises 25, 26: BAD; STATE");
    only("best()", 0, 2, () -> people(1), (x, what) -> x.best(what));
    only("centre()", 0, 2, () -> people(1), (x, what) -> x.centre(what));
    for (int what = 0; what <= 2; what++) {
      due("best(" + what + "), nobody", new CrustCrumb().best(what), STATE);
      due("centre(" + what + "), nobody", new CrustCrumb().centre(what), STATE);
    }
    due("best(3), nobody", new CrustCrumb().best(3), BAD);
    due("centre(3), nobody", new CrustCrumb().centre(3), BAD);

    sentence("Promise 27: By how many BEGINS it would be FAIR for n PEOPLE (1 to 9) of like SHARES, nothing gone. BAD");
    only("alike()", 1, 9, CrustCrumb::new, (x, n) -> x.alike(n));
    for (int at = 0; at < 25; at++) {
      CrustCrumb x = cake("middle " + (1 + at / 5) + " " + (1 + at % 5) + ";begin 5;gone " + at % 24 + ";one 9;one 1;");
      for (int n = 1; n <= 9; n++) {
        int[] like = new int[n];
        java.util.Arrays.fill(like, 1);
        int many = 0;
        for (int b = 0; b < 24; b++) many += offOfSquare(1 + at / 5, 1 + at % 5, b, 0, like) == 0 ? 1 : 0;
        due("alike(" + n + ") from " + x.rule(3), x.alike(n), many);
      }
    }
  }

  /** By walking round in steps of 1 by n, each with the crumb that lies between it and the middle, 780 n times over. */
  private static int alikeByWalk(CrustCrumb x, int n) {
    int rim = x.rule(1), side = 0, many = 0;
    long[] far = new long[rim];
    for (int at = 0; at < rim; at++) {
      while (side + 1 < x.rule(0) && x.corner(side + 1, 3) <= at) side++;
      far[at] = x.far(side, 0) * 780 / x.far(side, 1);
    }
    for (int b = 0; b < rim; b++) {
      boolean fair = true;
      for (int p = 0; p < n; p++) {
        long crumb = 0;
        for (int step = p * rim; step < (p + 1) * rim; step++) crumb += far[(b + step / n) % rim];
        fair &= crumb == 780L * x.rule(2);
      }
      many += fair ? 1 : 0;
    }
    return many;
  }

  private static void alikeOfMore() {
    sentence("Promise 27: By how many BEGINS it would be FAIR for n PEOPLE: of cakes that are so from some alone");
    String[] texts = {"corner 7 12;corner 0 12;corner 5 0;corner 11 8;corner 11 9;middle 6 8;", "corner 0 0;corner 4 0;corner 4 8;corner 0 8;middle 2 4;",
        "corner 3 0;corner 6 4;corner 3 8;corner 0 4;middle 3 4;", EIGHT, THREE, "corner 0 0;corner 12 0;corner 12 5;middle 11 1;",
        "corner 3 0;corner 7 3;corner 4 7;corner 0 4;"};
    for (String text : texts) {
      for (int n = 1; n <= 9; n++) due("alike(" + n + ") of " + text, cake(text).alike(n), alikeByWalk(cake(text), n));
    }
    due("alike(2) of the first", cake(texts[0]).alike(2), 26);
    due("alike(4) of the second", cake(texts[1]).alike(4), 4);
  }

  // ---- cherries

  private static void cherries() {
    sentence("Promise 28: CHERRIES in the PIECE of a ONE. BAD");
    for (int many = 0; many <= 6; many++) {
      int n = many;
      only("cherries() of " + many, 0, many - 1, () -> people(n), (x, p) -> x.cherries(p));
    }
    due("cherries(0), none", people(1).cherries(0), 0);
    CrustCrumb x = cake("one 1;" + "cherry 3 1;".repeat(8));
    due("cherries(0), all eight", x.cherries(0), 8);
    x.turn(3);
    due("cherries(0), all cut", x.cherries(0), 0);
    x.turn(2);
    x.eat(2);
    due("cherries(0), all gone", x.cherries(0), 0);

    sentence("Promise 29: CHERRIES that are CUT");
    due("cut(), all gone", x.cut(), 0);
    x.eat(1);
    due("cut(), all, at the first place", x.cut(), 8);
    x.turn(3);
    due("cut(), all, at BEGIN", x.cut(), 8);
    x.turn(4);
    due("cut(), none", x.cut(), 0);
    due("cut(), no CHERRIES", people(2).cut(), 0);

    sentence("Promise 30: The BEGIN (GONE as it is) by which the fewest CHERRIES are CUT, of several the least (what 0), how many (1). BAD");
    only("gentle()", 0, 1, CrustCrumb::new, (y, what) -> y.gentle(what));
    only("gentle() of PEOPLE", 0, 1, () -> people(6), (y, what) -> y.gentle(what));
    due("gentle(0), no CHERRIES", people(3).gentle(0), 0);
    due("gentle(1), no CHERRIES", people(3).gentle(1), 0);
    x = cake("one 1;" + "cherry 3 3;".repeat(8));
    due("gentle(0), all in the MIDDLE", x.gentle(0), 0);
    due("gentle(1), all in the MIDDLE", x.gentle(1), 8);
    // cherries on the ways to 0, 3, 6, 9 and on: of 1 and 2 the least
    x = cake("one 1;cherry 1 1;cherry 3 1;cherry 5 1;cherry 5 3;cherry 5 5;cherry 3 5;cherry 1 5;cherry 1 3;");
    due("gentle(0)", x.gentle(0), 1);
    due("gentle(1)", x.gentle(1), 0);
    // 1 gone: from 0 the cut at BEGIN goes through one, from 1 neither that nor the one at 2
    x.eat(1);
    due("gentle(0), 1 gone", x.gentle(0), 1);
    due("gentle(1), 1 gone", x.gentle(1), 0);
    x.eat(2);
    // 2 gone: 0 is cut from 0 on, 3 from 1 on, none at 2 and 4
    due("gentle(0), 2 gone", x.gentle(0), 2);
    due("gentle(1), 2 gone", x.gentle(1), 0);
    due("BEGIN", x.rule(4), 0);
    due("GONE", x.rule(5), 2);
    // cuts at b and the 6 ahead of it, round the end: a cherry on the way to c is cut from c to c + 6 on; these leave 47 alone
    x = cake(LARGE + "middle 6 6;gone 42;" + "one 1;".repeat(6)
        + "cherry 1 1;cherry 6 3;cherry 11 1;cherry 8 6;cherry 11 11;cherry 6 8;cherry 1 11;cherry 3 7;");
    due("gentle(0), the last place", x.gentle(0), 47);
    due("gentle(1), the last place", x.gentle(1), 0);
    for (int b = 0; b < 48; b++) {
      x.turn(b);
      due("cut() is none, from " + b, x.cut() == 0 ? 1 : 0, b == 47 ? 1 : 0);
    }
    due("gentle(0), whatever BEGIN is", x.gentle(0), 47);
    x = cake(SMALL + "gone 7;" + "cherry 3 3;");
    due("gentle(0) of the smallest", x.gentle(0), 0);
  }

  // ---- marks, seen

  private static void marks() {
    sentence("Promise 31: A MARK more: how many there are. BAD: also not behind the one ahead; FULL");
    only("mark(), the first", 0, 23, CrustCrumb::new, (x, b) -> x.mark(b));
    for (int many = 1; many <= 6; many++) {
      int n = many;
      only("mark() behind " + (many - 1), many, 23, () -> marked(n), (x, b) -> x.mark(b));
      due("mark(" + many + ")", marked(many).mark(many), many < 6 ? many + 1 : FULL);
      due("mark(23)", marked(many).mark(23), many < 6 ? many + 1 : FULL);
    }
    CrustCrumb x = new CrustCrumb();
    due("mark(23), the last place", x.mark(23), 1);
    for (int b = 0; b <= 24; b++) due("mark(" + b + ") behind it: it does not begin anew", x.mark(b), BAD);
    only("mark() of the smallest", 0, 7, () -> cake(SMALL), (y, b) -> y.mark(b));
    only("mark() of the largest", 0, 47, () -> cake(LARGE), (y, b) -> y.mark(b));

    sentence("Promise 32: MARKS are the first n alone: how many there were. BAD");
    for (int many = 0; many <= 6; many++) {
      int n = many;
      only("wipe() of " + many, 0, many, () -> marked(n), (y, v) -> y.wipe(v));
      for (int v = 0; v <= many; v++) {
        CrustCrumb y = marked(many);
        due("wipe(" + v + ")", y.wipe(v), many);
        due("MARKS", y.count(0), v);
        if (v > 0) due("the last of them", lastMark(y, 24), v - 1);
        due("mark(" + v + ")", y.mark(v), v < 6 ? v + 1 : FULL);
      }
    }
    x = marked(6);
    x.wipe(0);
    due("mark(0), anew", x.mark(0), 1);

    sentence("Promise 33: BAD; STATE: there are not as many as PEOPLE, or none; NONE: each has it");
    for (int people = 0; people <= 6; people++) {
      for (int marks = 0; marks <= 6; marks++) {
        CrustCrumb y = people(people);
        for (int i = 0; i < marks; i++) y.mark(4 * i);
        String what = " of " + people + " by " + marks;
        boolean asMany = people == marks && people > 0;
        // 4 of 24 are a sixth: too little for the first of fewer
        boolean each = people == 1 || people == 6;
        due("told(0)" + what, y.told(0), !asMany ? STATE : each ? NONE : 0);
        due("told(1)" + what, y.told(1), !asMany ? STATE : each ? NONE : 0);
        due("told(2)" + what, y.told(2), BAD);
        due("told(-1)" + what, y.told(-1), BAD);
      }
    }
    only("told()", 0, 1, () -> marked(0), (y, what) -> y.told(what));
    CrustCrumb y = cake("one 1;one 1;one 4;");
    for (int b : new int[] {3, 7, 12}) y.mark(b);
    due("told(0), the second", y.told(0), 1);
    due("told(1), more", y.told(1), 1);
    y.wipe(2);
    y.mark(10);
    due("told(0), the second", y.told(0), 1);
    due("told(1), less", y.told(1), 0);
    // the least that there is, 1 by 15 too much and too little: the sides of 5 are 12, 16, 13 and 9 by 5 from the middle
    String slanted = "corner 3 0;corner 7 3;corner 4 7;corner 0 4;";
    y = cake(slanted + "one 2;one 1;");
    y.mark(1);
    y.mark(13);
    due("told(0), just off", y.told(0), 0);
    due("told(1), just more", y.told(1), 1);
    y = cake(slanted + "one 1;one 2;");
    y.mark(10);
    y.mark(17);
    due("told(0), just off", y.told(0), 0);
    due("told(1), just less", y.told(1), 0);
  }

  private static void sights() {
    sentence("Promise 34: SEEN: a CORNER, a ONE, whether it lies in his PIECE: how many are. BAD; FULL");
    only("see(i, 0)", 0, 3, () -> people(1), (x, i) -> x.see(i, 0, true));
    only("see(i, 0) of three", 0, 2, () -> cake(THREE + "one 1;"), (x, i) -> x.see(i, 0, false));
    only("see(i, 5) of eight", 0, 7, Full::makeButSeen, (x, i) -> x.see(i, 5, true));
    for (int many = 0; many <= 6; many++) {
      int n = many;
      only("see(0, p) of " + many, 0, many - 1, () -> people(n), (x, p) -> x.see(0, p, true));
    }
    for (int many = 0; many <= 8; many++) {
      due("see() behind " + many, seen(many).see(3, 0, false), many < 8 ? many + 1 : FULL);
      due("see(4, 0) behind " + many, seen(many).see(4, 0, false), BAD);
      due("see(0, 1) behind " + many, seen(many).see(0, 1, false), BAD);
    }

    sentence("Promise 35: SEEN are the first n alone: how many there were. BAD");
    for (int many = 0; many <= 8; many++) {
      int n = many;
      only("forget() of " + many, 0, many, () -> seen(n), (y, v) -> y.forget(v));
      for (int v = 0; v <= many; v++) {
        CrustCrumb y = seen(many);
        due("forget(" + v + ")", y.forget(v), many);
        due("SEEN", y.count(1), v);
        due("see()", y.see(0, 0, true), v < 8 ? v + 1 : FULL);
      }
    }
    // the last of them is what is not so: without it all is
    CrustCrumb x = seen(7);
    x.see(0, 0, false);
    due("begins(0), all eight", x.begins(0), 0);
    x.forget(7);
    due("begins(0), the first seven", x.begins(0), 24);

    sentence("Promise 36: how many (what 0), the first (1), the last (2). BAD; NONE (1, 2): none");
    only("begins()", 0, 2, () -> people(1), (y, what) -> y.begins(what));
    only("begins(), nobody", 0, 2, CrustCrumb::new, (y, what) -> y.begins(what));
    x = new CrustCrumb();
    due("begins(0), nothing SEEN", x.begins(0), 24);
    due("begins(1), nothing SEEN", x.begins(1), 0);
    due("begins(2), nothing SEEN", x.begins(2), 23);
    x = seen(1);
    x.see(1, 0, false);
    int[] none = {0, NONE, NONE};
    for (int what = 0; what < 3; what++) due("begins(" + what + "), none", x.begins(what), none[what]);
    // one begin alone: 23 of 24 are gone, the corner at 12 is his from 13 on
    x = cake("gone 23;one 1;");
    x.see(2, 0, true);
    int[] one = {1, 13, 13};
    for (int what = 0; what < 3; what++) due("begins(" + what + "), one", x.begins(what), one[what]);
    x.forget(0);
    x.see(0, 0, true);
    // from 1 on, the last length ends at 1: the first of it is place 24
    for (int what = 0; what < 3; what++) due("begins(" + what + "), one, round the end", x.begins(what), 1);
    due("BEGIN", x.rule(4), 0);
  }

  // ---- images, sheets

  private static void images() {
    sentence("Promise 37: IMAGE k (0, 1) .. whether there was one (1, 0). BAD");
    only("keep()", 0, 1, CrustCrumb::new, (x, k) -> x.keep(k));
    CrustCrumb x = new CrustCrumb();
    for (int k = 0; k < 2; k++) {
      due("keep(" + k + ")", x.keep(k), 0);
      due("keep(" + k + ") again", x.keep(k), 1);
      due("IMAGES", x.count(2), k + 1);
    }
    x.text();
    due("keep(0) behind a text", x.keep(0), 0);
    due("keep(1) behind a text", x.keep(1), 0);

    sentence("Promise 38: All is as IMAGE k: how many PEOPLE. BAD; STATE: there is none");
    only("back()", 0, 1, CrustCrumb::new, (y, k) -> y.back(k));
    due("back(0), none", new CrustCrumb().back(0), STATE);
    due("back(1), none", new CrustCrumb().back(1), STATE);
    x = new CrustCrumb();
    x.keep(1);
    due("back(0), the other alone", x.back(0), STATE);
    due("back(1), nobody", x.back(1), 0);
    // from empty to full and back
    x = cake(EIGHT);
    x.keep(0);
    Full.fill(x);
    x.keep(1);
    for (int again = 0; again < 2; again++) {
      due("back(0)", x.back(0), 0);
      int[] rules = {8, 38, 216, 605, 0, 0, 0, 0};
      for (int i = 0; i < 8; i++) due("rule(" + i + ") of the empty one", x.rule(i), rules[i]);
      due("MARKS of the empty one", x.count(0), 0);
      due("SEEN of the empty one", x.count(1), 0);
      x.join(7);
      x.put(1, 4);
      x.mark(30);
      x.see(0, 0, false);
      x.move(4, 4);
      due("back(1)", x.back(1), 6);
      int[] all = {8, 38, 216, 706, 37, 3, 6, 8};
      for (int i = 0; i < 8; i++) due("rule(" + i + ") of the full one", x.rule(i), all[i]);
      due("MARKS of the full one", x.count(0), 6);
      due("the last MARK of the full one", lastMark(x, 38), 37);
      due("SEEN of the full one", x.count(1), 8);
      for (int p = 0; p < 6; p++) due("share(" + p + ") of the full one", x.share(p), p + 4);
      x.give(0, 1);
      x.turn(0);
      x.eat(0);
    }
    due("IMAGES stay", x.count(2), 2);
  }

  private static void sheets() {
    sentence("Promise 39: A SHEET is a new row of CELLS 0: 1. BAD: also n above 40; -10 - 4");
    for (int n = -3; n <= 43; n++) {
      CrustCrumb x = new CrustCrumb();
      due("sheet(0, 0, " + n + ")", x.sheet(0, 0, n), n < 0 ? -14 : n > 40 ? BAD : 1);
      due("CELLS", x.count(4), n < 0 || n > 40 ? NONE : n);
    }
    for (int n : FAR_OUT) due("sheet(0, 0, " + n + ")", new CrustCrumb().sheet(0, 0, n), n < 0 ? -14 : BAD);
    for (int lane = 0; lane < 3; lane++) {
      for (int i = 0; i < 40; i++) {
        CrustCrumb x = new CrustCrumb();
        x.sheet(1, lane, 40);
        for (int c = 0; c < 40; c++) x.lay(1, c, 5);
        due("sheet(1) anew", x.sheet(1, lane, 40), 1);
        due("read() of CELL " + i, x.read(1, lane, i, 1), 1);
        due("CELL " + i + " is 0", lastMark(x, 24), 0);
      }
    }

    sentence("Promise 40: CELL i of a SHEET becomes v (its lowest bits): 1. BAD: k; -10 less the FAULT: NULL, INDEX");
    only("lay(k)", 0, 3, CrustCrumb::new, (x, k) -> x.lay(k, 0, 0));
    for (int size : new int[] {0, 1, 40}) {
      CrustCrumb x = new CrustCrumb();
      x.sheet(3, 1, size);
      for (int i = -2; i <= 42; i++) due("lay(3, " + i + ") of " + size, x.lay(3, i, 9), i >= 0 && i < size ? 1 : -12);
      for (int i : FAR_OUT) due("lay(3, " + i + ") of " + size, x.lay(3, i, 9), -12);
    }
    for (int i : new int[] {-1, 0, 40, LOW, HIGH}) due("lay(2, " + i + ") of nothing", new CrustCrumb().lay(2, i, 0), -11);
    int[] values = {0, 5, 23, 127, 128, 133, 255, 256, 261, 32767, 32768, 32773, 65535, 65536, 65541, -1, -251, -65531, LOW, LOW + 5, HIGH};
    for (int v : values) {
      for (int lane = 0; lane < 3; lane++) {
        int holds = lane == 0 ? (byte) v : lane == 1 ? (short) v : v;
        CrustCrumb x = new CrustCrumb();
        x.sheet(0, lane, 2);
        due("lay(0, 1, " + v + ")", x.lay(0, 1, v), 1);
        boolean comes = holds >= 0 && holds < 24;
        due("read() of " + v + " in lane " + lane, x.read(0, lane, 1, 1), comes ? 1 : -20);
        if (comes) due("the MARK of " + v + " in lane " + lane, lastMark(x, 24), holds);
        x.wipe(0);
        due("the CELL beside it", x.read(0, lane, 0, 1), 1);
        due("the CELL beside it is 0", lastMark(x, 24), 0);
      }
    }
  }

  /** SHEET 1 holds the MARKS 0, 1 and on in its CELLS. */
  private static CrustCrumb laid(int lane, int size) {
    CrustCrumb x = new CrustCrumb();
    x.sheet(1, lane, size);
    for (int i = 0; i < size; i++) x.lay(1, i, i);
    return x;
  }

  private static void reads() {
    sentence("Promise 41: n (0 to 6) MARKS are read of a SHEET taken as of a lane, from CELL f on. BAD: k, lane, n");
    only("read(k)", 0, 3, () -> laid(0, 40), (x, k) -> x.read(k, 0, 0, 1));
    only("read(lane)", 0, 2, () -> laid(0, 40), (x, lane) -> x.read(1, lane, 0, 1));
    only("read(n)", 0, 6, () -> laid(0, 40), (x, n) -> x.read(1, 0, 0, n));
    only("read(n) of nothing", 0, 6, () -> laid(0, 40), (x, n) -> x.read(0, 0, 0, n));
    for (int lane = 0; lane < 3; lane++) {
      for (int n = 0; n <= 6; n++) {
        CrustCrumb x = laid(lane, 7);
        due("read(1, " + lane + ", 1, " + n + ")", x.read(1, lane, 1, n), n);
        due("MARKS", x.count(0), n);
        if (n > 0) due("the last MARK", lastMark(x, 24), n);
        due("torn()", x.torn(), 0);
      }
    }

    sentence("Promise 41: What the machine refuses: those ahead come (its FAULT is asked by torn())");
    for (int f = -3; f <= 10; f++) {
      for (int n = 0; n <= 6; n++) {
        CrustCrumb x = laid(2, 8);
        int come = f < 0 ? 0 : Math.max(0, Math.min(n, 8 - f));
        due("read(1, 2, " + f + ", " + n + ")", x.read(1, 2, f, n), come);
        due("torn()", x.torn(), come < n ? 2 : 0);
        due("MARKS", x.count(0), come);
        if (come > 0) due("the last MARK", lastMark(x, 24), f + come - 1);
      }
    }
    for (int f : FAR_OUT) {
      CrustCrumb x = laid(2, 8);
      due("read(1, 2, " + f + ", 6)", x.read(1, 2, f, 6), 0);
      due("torn()", x.torn(), 2);
    }
    CrustCrumb x = laid(0, 0);
    due("read() of no CELLS", x.read(1, 0, 0, 1), 0);
    due("torn()", x.torn(), 2);
    due("read() of another lane, none", x.read(1, 1, 0, 1), 0);
    due("torn()", x.torn(), 3);
    due("read() of nothing", x.read(0, 1, 50, 6), 0);
    due("torn()", x.torn(), 1);
    due("read() of no MARKS", x.read(0, 1, 50, 0), 0);
    due("torn()", x.torn(), 0);

    sentence("Promise 41: -20 less i: MARK i is refused by mark() (in whichever way): then none came; the first met");
    for (int i = 0; i < 6; i++) {
      for (int no : new int[] {-1, 24, LOW, HIGH}) {
        x = laid(2, 6);
        x.lay(1, i, no);
        due("read() with " + no + " at " + i, x.read(1, 2, 0, 6), -20 - i);
        due("MARKS", x.count(0), 0);
      }
      if (i > 0) {
        x = laid(2, 6);
        x.lay(1, i, i - 1);
        due("read() of like MARKS at " + i, x.read(1, 2, 0, 6), -20 - i);
        due("MARKS", x.count(0), 0);
      }
      // as many as are there ahead: the last that has room, and one more
      x = laid(2, 13);
      for (int b = 0; b < i; b++) x.mark(b);
      due("read(), one too many behind " + i, i == 0 ? -26 : x.read(1, 2, 6, 7 - i), -26 + i);
      due("MARKS", x.count(0), i);
      if (i > 0) due("the last MARK", lastMark(x, 24), i - 1);
      due("read(), as many as have room", x.read(1, 2, 6, 6 - i), 6 - i);
      due("MARKS", x.count(0), 6);
    }
    x = laid(2, 3);
    x.mark(1);
    due("read(), not behind the one ahead", x.read(1, 2, 1, 2), -20);
    due("read(), refused ahead of INDEX", x.read(1, 2, 0, 6), -20);
    due("read(), INDEX ahead of what would be refused", x.read(1, 2, 2, 6), 1);
    due("torn()", x.torn(), 2);

    sentence("Promise 42: The FAULT of the latest read() that came to an end; 0");
    x = laid(2, 3);
    due("torn(), no read() yet", x.torn(), 0);
    x.read(1, 0, 0, 1);
    due("torn(), CAST", x.torn(), 3);
    x.read(1, 2, 0, 7);
    due("torn() behind a BAD one", x.torn(), 3);
    x.lay(1, 0, -1);
    due("read(), refused", x.read(1, 2, 0, 1), -20);
    due("torn() behind one that is refused", x.torn(), 3);
    x.sheet(0, 0, -1);
    x.lay(0, 0, 0);
    due("torn() behind sheet() and lay()", x.torn(), 3);
    x.read(1, 2, 1, 1);
    due("torn(), none", x.torn(), 0);
  }

  private static void counts() {
    sentence("Promise 43: How many: 0 MARKS .. 5 SHARES, summed. BAD");
    only("count()", 0, 5, CrustCrumb::new, (x, what) -> x.count(what));
    only("count() of all", 0, 5, Full::make, (x, what) -> x.count(what));
    due("SHARES of nobody", new CrustCrumb().count(5), 0);
    due("SHARES, the most", cake("one 9;".repeat(6)).count(5), 54);
    due("bytes, the most", taped(320).count(3), 320);
    due("MARKS, the most", marked(6).count(0), 6);
    due("SEEN, the most", seen(8).count(1), 8);

    sentence("Promise 43: 4 CELLS of SHEET 0 (NONE: nothing)");
    CrustCrumb x = new CrustCrumb();
    for (int k = 1; k < 4; k++) x.sheet(k, 0, 7);
    due("count(4), nothing", x.count(4), NONE);
    for (int n : new int[] {0, 1, 39, 40}) {
      x.sheet(0, n % 3, n);
      due("count(4)", x.count(4), n);
    }
    x.sheet(0, 0, 41);
    due("count(4), refused", x.count(4), 40);
    x.sheet(0, 0, -1);
    due("count(4), refused", x.count(4), 40);
  }

  /** Cakes that are full of all. */
  private static final class Full {
    static void fill(CrustCrumb x) {
      for (int v = 4; v <= 9; v++) x.join(v);
      x.move(7, 6);
      x.turn(37);
      x.eat(3);
      for (int i = 0; i < 8; i++) x.put(6, 6);
      for (int b = 32; b < 38; b++) x.mark(b);
      for (int i = 0; i < 8; i++) x.see(i, 0, true);
    }

    static CrustCrumb make() {
      CrustCrumb x = cake(EIGHT);
      fill(x);
      return x;
    }

    static CrustCrumb makeButSeen() {
      CrustCrumb x = make();
      x.forget(0);
      return x;
    }
  }

  public static void main(String[] args) {
    newObject();
    feeds();
    ends();
    endedEarly();
    texts();
    rules();
    changes();
    pieces();
    judges();
    circles();
    nearest();
    alikeOfMore();
    cherries();
    marks();
    sights();
    images();
    sheets();
    reads();
    counts();
    tellAll();
  }
}
