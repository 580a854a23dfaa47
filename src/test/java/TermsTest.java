/** The sentences under 'Terms' that name a bound, one after another: within it, outside of it, empty, full, round the end. */
public final class TermsTest extends Asked {
  // ---- answers

  private static void answersInOrder() {
    sentence("Answers: BAD -1, STATE -2, FULL -3, NONE -4");
    due("BAD", CrustCrumb.BAD, -1);
    due("STATE", CrustCrumb.STATE, -2);
    due("FULL", CrustCrumb.FULL, -3);
    due("NONE", CrustCrumb.NONE, -4);

    sentence("the first that fits: BAD ahead of STATE");
    CrustCrumb x = new CrustCrumb();
    for (int what : new int[] {2, -1, 3}) {
      due("off(" + what + "), nobody", x.off(what), BAD);
      due("told(" + what + "), nobody", x.told(what), BAD);
    }
    for (int what : new int[] {3, -1, 4}) {
      due("best(" + what + "), nobody", x.best(what), BAD);
      due("centre(" + what + "), nobody", x.centre(what), BAD);
    }
    due("back(2), no IMAGE", x.back(2), BAD);
    due("back(-1), no IMAGE", x.back(-1), BAD);

    sentence("the first that fits: BAD ahead of FULL");
    x = full();
    due("join(0)", x.join(0), BAD);
    due("join(10)", x.join(10), BAD);
    due("join(9)", x.join(9), FULL);
    due("put(0, 6), on the RIM", x.put(0, 6), BAD);
    due("put(13, 5)", x.put(13, 5), BAD);
    due("put(6, 5)", x.put(6, 5), FULL);
    due("mark(-1)", x.mark(-1), BAD);
    due("mark(38)", x.mark(38), BAD);
    due("mark(5), not behind", x.mark(5), BAD);
    due("mark(6)", x.mark(6), FULL);
    due("see(8, 0)", x.see(8, 0, true), BAD);
    due("see(0, 6)", x.see(0, 6, true), BAD);
    due("see(7, 5)", x.see(7, 5, true), FULL);

    sentence("the first that fits: BAD ahead of NONE");
    x = cake("corner 1 1;corner 5 1;corner 5 4;corner 1 4;one 1;");
    due("judge(2), FAIR", x.judge(2), BAD);
    due("judge(-1), FAIR", x.judge(-1), BAD);
    due("judge(0), FAIR", x.judge(0), NONE);
    due("rounds(2), none", x.rounds(2), BAD);
    due("rounds(-1), none", x.rounds(-1), BAD);
    due("rounds(1), none", x.rounds(1), NONE);
    x.mark(3);
    due("told(2), each has it", x.told(2), BAD);
    due("told(-1), each has it", x.told(-1), BAD);
    due("told(1), each has it", x.told(1), NONE);
    x.see(0, 0, false);
    due("begins(3), none", x.begins(3), BAD);
    due("begins(-1), none", x.begins(-1), BAD);
    due("begins(1), none", x.begins(1), NONE);
    due("count(6), nothing", x.count(6), BAD);
    due("count(4), nothing", x.count(4), NONE);

    sentence("the first that fits: BAD ahead of the machine's FAULTS");
    x = new CrustCrumb();
    due("sheet(4, 0, -1)", x.sheet(4, 0, -1), BAD);
    due("sheet(0, 3, -1)", x.sheet(0, 3, -1), BAD);
    due("sheet(0, 0, -1)", x.sheet(0, 0, -1), -14);
    for (int n : new int[] {-1, LOW}) {
      for (int k : new int[] {-1, 4, LOW, HIGH}) due("sheet(" + k + ", 0, " + n + ")", x.sheet(k, 0, n), BAD);
      for (int lane : new int[] {-1, 3, LOW, HIGH}) due("sheet(0, " + lane + ", " + n + ")", x.sheet(0, lane, n), BAD);
    }
    due("no SHEET came of it", x.count(4), NONE);
    due("lay(4, -1, 0)", x.lay(4, -1, 0), BAD);
    due("read(4, 0, -1, 1)", x.read(4, 0, -1, 1), BAD);
    due("read(0, 3, -1, 1)", x.read(0, 3, -1, 1), BAD);
    due("read(0, 0, -1, 7)", x.read(0, 0, -1, 7), BAD);
    due("torn()", x.torn(), 0);
  }

  /** Eight CORNERS, six PEOPLE, eight CHERRIES, MARKS 0 to 5, eight SEEN. */
  static CrustCrumb full() {
    CrustCrumb x = cake(EIGHT + "one 9;".repeat(6) + "cherry 6 6;".repeat(8));
    for (int i = 0; i < 6; i++) x.mark(i);
    for (int i = 0; i < 8; i++) x.see(i, 0, true);
    return x;
  }

  private static void lowestTerms() {
    sentence("Fractions are in lowest terms, the denominator above 0");
    String[] texts = {"one 6;one 3;one 9;", "middle 1 4;begin 7;gone 6;one 2;one 4;one 2;", EIGHT + "begin 37;gone 4;one 9;one 9;",
        THREE + "begin 11;gone 3;one 8;one 4;", "middle 5 5;begin 23;gone 23;one 1;one 2;one 3;one 4;one 5;one 6;"};
    for (String text : texts) {
      CrustCrumb x = cake(text);
      for (int p = 0; p < x.rule(6); p++) {
        lowest("place of " + text, x.place(p, 0), x.place(p, 1));
        lowest("crumb of " + text, x.crumb(p, 0), x.crumb(p, 1));
        lowest("crust of " + text, x.crust(p, 0), x.crust(p, 1));
        lowest("due of " + text, x.due(p, 0), x.due(p, 1));
        lowest("work of " + text, x.work(p, 6, 9, 0), x.work(p, 6, 9, 1));
      }
      for (int i = 0; i < x.rule(0); i++) lowest("far of " + text, x.far(i, 0), x.far(i, 1));
      lowest("off of " + text, x.off(0), x.off(1));
      lowest("best of " + text, x.best(1), x.best(2));
      lowest("centre of " + text, x.centre(1), x.centre(2));
    }

    sentence("(0 is 0 by 1)");
    for (String text : new String[] {"one 7;", "one 3;one 3;", THREE + "one 2;one 3;one 4;"}) {
      CrustCrumb x = cake(text);
      fraction("place(0) at 0 of " + text, x.place(0, 0), x.place(0, 1), 0, 1);
      fraction("work(0, 0, 0) of " + text, x.work(0, 0, 0, 0), x.work(0, 0, 0, 1), 0, 1);
      fraction("off, FAIR, of " + text, x.off(0), x.off(1), 0, 1);
      fraction("best, FAIR, of " + text, x.best(1), x.best(2), 0, 1);
      fraction("centre, FAIR, of " + text, x.centre(1), x.centre(2), 0, 1);
    }
  }

  private static void lowest(String call, long n, long d) {
    due(call + ": the denominator above 0", d > 0 ? 1 : 0, 1);
    due(call + ": not below 0", n >= 0 ? 1 : 0, 1);
    long a = n, b = d;
    while (b != 0) {
      long rest = a % b;
      a = b;
      b = rest;
    }
    due(call + ": the greatest common divisor of " + n + " and " + d, a, 1);
  }

  // ---- the cake

  private static final String[] BY_CORNERS = {THREE, "corner 0 0;corner 12 0;corner 12 11;corner 0 11;",
      "corner 4 0;corner 12 0;corner 12 11;corner 0 11;corner 0 3;", "corner 4 0;corner 8 0;corner 12 3;corner 12 11;corner 0 11;corner 0 3;",
      "corner 4 0;corner 8 0;corner 12 3;corner 12 8;corner 8 11;corner 0 11;corner 0 3;", EIGHT};

  private static void corners() {
    sentence("CORNERS (3 to 8, by order)");
    int[] rims = {12, 46, 44, 42, 40, 38};
    int[] areas = {12, 264, 252, 240, 228, 216};
    for (int i = 0; i < 6; i++) {
      CrustCrumb x = cake(BY_CORNERS[i]);
      due("CORNERS", x.rule(0), i + 3);
      due("RIM", x.rule(1), rims[i]);
      due("AREA", x.rule(2), areas[i]);
      due("corner(" + (i + 2) + ", 0), the last", x.corner(i + 2, 0) == BAD ? 1 : 0, 0);
      due("corner(" + (i + 3) + ", 0), behind it", x.corner(i + 3, 0), BAD);
    }
    int[][] byOrder = {{4, 0}, {8, 0}, {12, 3}, {12, 8}, {8, 11}, {4, 11}, {0, 8}, {0, 3}};
    CrustCrumb eight = cake(EIGHT);
    for (int i = 0; i < 8; i++) {
      due("corner(" + i + ", 0)", eight.corner(i, 0), byOrder[i][0]);
      due("corner(" + i + ", 1)", eight.corner(i, 1), byOrder[i][1]);
    }
    refused("corner 0 0;", 6, 11);
    refused("corner 0 0;corner 4 0;", 6, 22);
    refused(EIGHT + "corner 2 2;", 5, EIGHT.length());

    sentence("points of whole numbers 0 to 12");
    CrustCrumb x = cake(LARGE);
    due("corner(0, 0)", x.corner(0, 0), 0);
    due("corner(2, 0)", x.corner(2, 0), 12);
    due("corner(2, 1)", x.corner(2, 1), 12);
    refused("corner 13 0;corner 12 12;corner 0 12;", 3, 7);
    refused("corner 0 13;corner 12 12;corner 0 12;", 3, 9);

    sentence("RIM: all LENGTHS summed. AREA: twice the area");
    due("RIM of the largest", x.rule(1), 48);
    due("AREA of the largest", x.rule(2), 288);
    x = cake(SMALL);
    due("RIM of the smallest", x.rule(1), 8);
    due("AREA of the smallest", x.rule(2), 8);

    sentence("At first the square 0 0, 6 0, 6 6, 0 6");
    square(new CrustCrumb());
    x = cake(EIGHT);
    due("text() of nothing", x.text(), 0);
    square(x);
  }

  private static void square(CrustCrumb x) {
    int[][] corners = {{0, 0}, {6, 0}, {6, 6}, {0, 6}};
    for (int i = 0; i < 4; i++) {
      due("corner(" + i + ", 0)", x.corner(i, 0), corners[i][0]);
      due("corner(" + i + ", 1)", x.corner(i, 1), corners[i][1]);
      due("corner(" + i + ", 2)", x.corner(i, 2), 6);
      due("corner(" + i + ", 3)", x.corner(i, 3), 6 * i);
    }
    due("CORNERS", x.rule(0), 4);
    due("RIM", x.rule(1), 24);
    due("AREA", x.rule(2), 72);
  }

  private static String cornersFrom(int[][] points, int first, boolean backwards) {
    StringBuilder s = new StringBuilder();
    for (int i = 0; i < points.length; i++) {
      int[] p = points[Math.floorMod(backwards ? first - i : first + i, points.length)];
      s.append("corner ").append(p[0]).append(' ').append(p[1]).append(';');
    }
    return s.toString();
  }

  private static void turns() {
    sentence("at each the way turns to the left (from the one ahead over it to the one behind it, round)");
    int[][][] cakes = {{{0, 0}, {12, 0}, {12, 9}}, {{0, 0}, {6, 0}, {6, 6}, {0, 6}}, {{3, 0}, {7, 3}, {4, 7}, {0, 4}},
        {{4, 0}, {8, 0}, {12, 3}, {12, 8}, {8, 11}, {4, 11}, {0, 8}, {0, 3}}};
    String[] middles = {"middle 9 3;", "middle 3 3;", "middle 3 3;", "middle 6 5;"};
    for (int c = 0; c < cakes.length; c++) {
      int n = cakes[c].length;
      for (int first = 0; first < n; first++) {
        taken(cornersFrom(cakes[c], first, false) + middles[c], n + 1);
        String back = cornersFrom(cakes[c], first, true) + middles[c];
        refused(back, 7, back.length());
      }
    }
    // just to the left at 4 0, where twice the area of its three points is 1
    int[][] just = {{3, 0}, {4, 0}, {4, 1}, {0, 4}};
    for (int first = 0; first < 4; first++) taken(cornersFrom(just, first, false) + "middle 3 1;", 5);
    // straight on, to the right, there and back, in place, at each of the corners in turn
    int[][][] wrong = {{{0, 0}, {3, 0}, {6, 0}, {6, 6}, {0, 6}}, {{0, 0}, {6, 0}, {6, 6}, {3, 3}, {0, 6}}, {{0, 0}, {6, 0}, {6, 0}, {6, 6}, {0, 6}},
        {{0, 0}, {6, 0}, {9, 0}, {6, 0}, {6, 6}, {0, 6}}, {{0, 0}, {6, 0}, {12, 0}}};
    for (int[][] points : wrong) {
      for (int first = 0; first < points.length; first++) {
        String text = cornersFrom(points, first, false);
        refused(text, 7, text.length());
      }
    }

    sentence("no two SIDES cross");
    // at each corner to the left all the same: three that go round twice, one that goes round three times
    int[][][] cross = {{{6, 0}, {9, 12}, {0, 5}, {12, 5}, {3, 12}}, {{0, 0}, {6, 0}, {6, 6}, {2, 6}, {2, 2}, {4, 2}, {4, 4}, {0, 4}},
        {{4, 0}, {12, 8}, {4, 11}, {0, 3}, {8, 0}, {12, 8}, {4, 12}, {0, 4}},
        {{4, 0}, {12, 8}, {0, 8}, {8, 0}, {8, 11}, {0, 3}, {12, 3}, {4, 11}}};
    for (int[][] points : cross) {
      for (int first = 0; first < points.length; first++) {
        String text = cornersFrom(points, first, false) + "middle 3 3;";
        refused(text, 7, text.length());
      }
    }

    sentence("SIDE i goes from CORNER i to the one behind it (from the last to 0); its LENGTH is a whole number");
    CrustCrumb x = cake(THREE);
    int[] lengths = {4, 3, 5};
    for (int i = 0; i < 3; i++) due("corner(" + i + ", 2)", x.corner(i, 2), lengths[i]);
    // one side alone is none: the last, the first, the one between
    int[][] points = {{0, 0}, {5, 0}, {5, 4}, {0, 5}};
    for (int first = 0; first < 4; first++) {
      String text = cornersFrom(points, first, false);
      refused(text, 8, text.length());
    }
    refused("corner 0 0;corner 4 0;corner 4 4;middle 3 1;", 8, 44);
    // the squares of two of its lengths are 26, just behind 25
    refused("corner 0 0;corner 5 1;corner 5 6;corner 0 5;", 8, 44);
    due("a LENGTH of 15", cake("corner 0 0;corner 12 0;corner 12 9;middle 9 3;").corner(2, 2), 15);
    due("a LENGTH of 1", cake("corner 3 0;corner 4 0;corner 4 5;corner 0 5;corner 0 4;middle 1 4;").corner(0, 2), 1);
  }

  private static void middleAndPlaces() {
    sentence("MIDDLE: a point of whole numbers inside (not on the RIM); 3 3 at first. INSIDE are points that lie to the left of each SIDE");
    due("the MIDDLE at first", new CrustCrumb().rule(3), 303);
    // in 0 0, 4 0, 4 3 lie 2 1, 3 1 and 3 2 alone; 8 6 and the like lie on a line of a side, 2 6 and 6 2 to the left of two
    for (int x = -2; x <= 14; x++) {
      for (int y = -2; y <= 14; y++) {
        boolean inside = x == 2 && y == 1 || x == 3 && (y == 1 || y == 2);
        CrustCrumb c = cake(THREE);
        due("move(" + x + ", " + y + ")", c.move(x, y), inside ? 301 : BAD);
        due("the MIDDLE", c.rule(3), inside ? 100 * x + y : 301);
        due("put(" + x + ", " + y + ")", c.put(x, y), inside ? 1 : BAD);
        due("CHERRIES", c.rule(7), inside ? 1 : 0);
        if (x >= 0 && y >= 0 && x <= 12 && y <= 12) {
          CrustCrumb t = new CrustCrumb();
          write(t, THREE + "cherry " + x + " " + y + ";");
          due("text() with a cherry at " + x + " " + y, t.text() < 0 ? t.fault() : 0, inside ? 0 : 9);
        }
      }
    }
    due("move(3, 4), the one point of the smallest", cake(SMALL).move(3, 4), BAD);
    due("move(3, 3), the one point of the smallest", cake(SMALL).move(3, 3), 303);
    due("move(11, 11) of the largest", cake(LARGE).move(11, 11), 303);
    due("move(12, 11) of the largest", cake(LARGE).move(12, 11), BAD);

    sentence("BEGIN: a place on the RIM (0 to RIM less 1; 0 at first), GONE (0 to RIM less 1; 0)");
    due("BEGIN at first", new CrustCrumb().rule(4), 0);
    due("GONE at first", new CrustCrumb().rule(5), 0);
    String[] texts = {"", SMALL, LARGE, THREE, EIGHT};
    int[] rims = {24, 8, 48, 12, 38};
    for (int i = 0; i < texts.length; i++) {
      String text = texts[i];
      int last = rims[i] - 1;
      only("turn() of RIM " + rims[i], 0, last, () -> cake(text), (x, v) -> x.turn(v));
      only("eat() of RIM " + rims[i], 0, last, () -> cake(text), (x, v) -> x.eat(v));
      due("begin told", cake(text + "begin " + last + ";").rule(4), last);
      due("gone told", cake(text + "gone " + last + ";").rule(5), last);
      for (String name : new String[] {"begin ", "gone "}) {
        String over = text + name + rims[i] + ";";
        refused(over, 10, over.length());
      }
    }

    sentence("PLACES on the RIM: how far from CORNER 0 on, along SIDE 0, 1 and so on");
    int[] starts = {0, 4, 9, 14, 19, 23, 28, 33};
    CrustCrumb eight = cake(EIGHT);
    for (int i = 0; i < 8; i++) due("corner(" + i + ", 3)", eight.corner(i, 3), starts[i]);
  }

  /** How far the MIDDLE 2 1 of the square is from the side on which a length of 1 lies; behind 24 it begins anew. */
  private static int crumbAt(int place) {
    return new int[] {1, 4, 5, 2}[place % 24 / 6];
  }

  private static void behindRim() {
    sentence("behind RIM it begins anew");
    for (int begin = 0; begin < 24; begin++) {
      CrustCrumb x = cake("middle 2 1;one 1;");
      x.turn(begin);
      for (int gone = 0; gone < 24; gone++) {
        x.eat(gone);
        long crumb = 0;
        for (int at = begin + gone; at < begin + 24; at++) crumb += crumbAt(at);
        fraction("crumb(0), BEGIN " + begin + ", GONE " + gone, x.crumb(0, 0), x.crumb(0, 1), crumb, 1);
        fraction("due(0), BEGIN " + begin + ", GONE " + gone, x.due(0, 0), x.due(0, 1), crumb, 1);
        fraction("place(0), BEGIN " + begin + ", GONE " + gone, x.place(0, 0), x.place(0, 1), begin + gone, 1);
      }
    }
    // two halves: of an odd length they part within a length of 1
    for (int begin = 0; begin < 24; begin++) {
      CrustCrumb x = cake("middle 2 1;one 1;one 1;");
      x.turn(begin);
      for (int gone = 0; gone < 24; gone++) {
        x.eat(gone);
        int twice = 0;
        for (int half = 0; half < 24 - gone; half++) twice += crumbAt((2 * (begin + gone) + half) / 2);
        lowestHalf("crumb(0), BEGIN " + begin + ", GONE " + gone, x.crumb(0, 0), x.crumb(0, 1), twice);
        lowestHalf("place(1), BEGIN " + begin + ", GONE " + gone, x.place(1, 0), x.place(1, 1), 2 * (begin + gone) + 24 - gone);
        lowestHalf("crust(1), BEGIN " + begin + ", GONE " + gone, x.crust(1, 0), x.crust(1, 1), 24 - gone);
      }
    }
  }

  private static void lowestHalf(String call, long n, long d, int twice) {
    fraction(call, n, d, twice % 2 == 0 ? twice / 2 : twice, twice % 2 == 0 ? 1 : 2);
  }

  private static void peopleAndCherries() {
    sentence("PEOPLE (6 at most, by order), each a ONE with a SHARE (1 to 9)");
    for (int many = 0; many <= 8; many++) {
      String text = "one 3;".repeat(many);
      if (many <= 6) taken(text, many);
      else refused(text, 5, 36);
      CrustCrumb x = new CrustCrumb();
      for (int i = 1; i <= many; i++) due("join(" + i + ")", x.join(i), i <= 6 ? i : FULL);
      due("PEOPLE", x.rule(6), Math.min(many, 6));
      for (int p = 0; p < 8; p++) due("share(" + p + ")", x.share(p), p < Math.min(many, 6) ? p + 1 : BAD);
    }
    for (int v = 0; v <= 11; v++) {
      if (v >= 1 && v <= 9) taken("one " + v + ";", 1);
      else refused("one " + v + ";", 3, 4);
    }

    sentence("CHERRIES (8 at most): points of whole numbers INSIDE");
    for (int many = 0; many <= 10; many++) {
      String text = "cherry 2 5;".repeat(many);
      if (many <= 8) taken(text, many);
      else refused(text, 5, 88);
      CrustCrumb x = new CrustCrumb();
      for (int i = 1; i <= many; i++) due("put(2, 5)", x.put(2, 5), i <= 8 ? i : FULL);
      due("CHERRIES", x.rule(7), Math.min(many, 8));
    }
  }

  // ---- the text

  private static void tape() {
    sentence("THE TAPE has 320 bytes, places from 0");
    CrustCrumb x = new CrustCrumb();
    for (int i = 1; i <= 40; i++) due("feed()", x.feed(0x2020202020202020L), 8 * i);
    due("feed() behind 320", x.feed(0x2020202020202020L), FULL);
    due("bytes", x.count(3), 320);
    due("text() of 320 blanks", x.text(), 0);
    String line = "one 9;";
    taken(" ".repeat(320 - 6) + line, 1);
    refused("?" + " ".repeat(319), 1, 0);
    refused(" ".repeat(319) + "?", 1, 319);
    refused(" ".repeat(315) + "one 9", 2, 320);
    refused(" ".repeat(310) + "begin 99; ", 10, 320);
    // the fullest text: every line as often as it may be told
    String all = EIGHT + "begin 37;gone 37;" + "one 9;".repeat(6) + "cherry 6 5;".repeat(8);
    taken(all, 25);
    taken(all + " ".repeat(320 - all.length()), 25);
  }

  private static void tokens() {
    sentence("TOKENS, each as long as may be");
    taken("one 1;one 2;", 2);
    refused("oneone 1;", 2, 0);
    refused("on e 1;", 2, 0);
    refused("middle 33;", 3, 7);
    refused("cherry 1 23;", 3, 9);
    taken("begin 23;", 1);
    refused("begin 2 3;", 2, 8);
    refused("one 1;;", 2, 6);
    refused("beginone;", 2, 0);

    sentence("blanks (32) between");
    taken("one1;", 1);
    taken("one 1;", 1);
    taken("   one   1   ;   ", 1);
    taken("cherry1 2;cherry 3 4 ;", 2);
    taken("corner0 0;corner6 0;corner6 6;corner0 6;middle1 1;begin23;gone0;one9;", 8);
    // what is as long as may be ends where another kind begins: one TOKEN ahead of it, one behind
    refused("one1two", 2, 4);
    refused("one1x;", 2, 4);
    refused("one12 ;", 3, 3);
    refused("one123;", 1, 3);
    refused("one;1", 2, 3);
    refused("1one;", 2, 0);
    refused("123one;", 1, 0);
    refused("middle3 3one1;", 2, 9);
    for (int b = 0; b < 256; b++) {
      if (b == 32) continue;
      refused((char) b + "begin 1;", b >= '0' && b <= '9' || b == ';' || b >= 'a' && b <= 'z' ? 2 : 1, 0);
    }

    sentence("NAMES (a .. z), NUMBERS (1 or 2 figures), one ;");
    for (int b = 0; b < 256; b++) {
      boolean token = b >= '0' && b <= '9' || b == ';' || b >= 'a' && b <= 'z';
      if (b != 32) refused("one 1;" + (char) b, token ? 2 : 1, 6);
      if (b != 32 && b != ';') refused("one 1 " + (char) b + ";", token ? 2 : 1, 6);
      boolean figure = b >= '1' && b <= '9';
      if (figure) taken("one " + (char) b + ";", 1);
    }
    taken("one 1;", 1);
    taken("one 01;", 1);
    refused("one 001;", 1, 4);
    refused("one 0000000000000000001;", 1, 4);
    refused("begin 100;", 1, 6);
    refused("begin 4294967296;", 1, 6);
    refused("one 1:", 1, 5);

    sentence("text: { line }");
    taken("", 0);
    taken(" ", 0);
    taken("gone 1;", 1);
    taken("gone 1;begin 1;one 1;middle 1 1;cherry 1 1;", 5);
    // in whichever order, the corners between the others too
    taken("cherry 3 1;corner 0 0;one 1;corner 4 0;begin 11;corner 4 3;gone 11;middle 2 1;", 8);
  }

  private static void lines() {
    sentence("line: corner N N ; | middle N N ; | begin N ; | gone N ; | one N ; | cherry N N ;");
    String[] two = {"corner", "middle", "cherry"}, one = {"begin", "gone", "one"};
    for (String name : two) {
      int n = name.length();
      refused(name, 2, n);
      refused(name + ";", 2, n);
      refused(name + " 3", 2, n + 2);
      refused(name + " 3;", 2, n + 2);
      refused(name + " 3 3", 2, n + 4);
      refused(name + " 3 3 3;", 2, n + 5);
      refused(name + " 3 one;", 2, n + 3);
      refused(name + " one 3;", 2, n + 1);
      refused(name + "s 3 3;", 2, 0);
      refused("x" + name + " 3 3;", 2, 0);
      refused(name.substring(0, n - 1) + " 3 3;", 2, 0);
    }
    for (String name : one) {
      int n = name.length();
      refused(name, 2, n);
      refused(name + ";", 2, n);
      refused(name + " 3", 2, n + 2);
      refused(name + " 3 3;", 2, n + 3);
      refused(name + " one;", 2, n + 1);
      refused(name + "s 3;", 2, 0);
      refused("x" + name + " 3;", 2, 0);
      refused(name.substring(0, n - 1) + " 3;", 2, 0);
      refused(name + " 3; ;", 2, n + 4);
    }
  }

  private static void faultsByPlace() {
    sentence("FAULTS, the first met as it is read (a TOKEN is read when the one before has been taken)");
    refused("one 0 ?", 3, 4);
    refused("foo ?", 2, 0);
    refused("corner 13 100;", 3, 7);
    refused("corner 100 13;", 1, 7);
    refused("one 10;?", 3, 4);
    refused("middle 3 3;middle ?", 4, 11);
    refused("one 1;".repeat(6) + "one ?", 5, 36);
    refused("begin 99;?", 1, 9);
    refused("corner 1 1;?", 1, 11);
    refused("one 1;? one 0;", 1, 6);
    refused("one 0;?", 3, 4);
    refused("; ?", 2, 0);
    refused("one ; 0", 2, 4);

    sentence("1 no TOKEN, a NUMBER that is too long (its first byte)");
    refused("  one 123;", 1, 6);
    refused("  123;", 1, 2);
    refused("one 9;  one 1234567890", 1, 12);
    refused("one -1;", 1, 4);
    refused("one 1.5;", 1, 5);
    refused("One 1;", 1, 0);
    // on is a NAME, and begins no line: what lies behind it is not read
    refused("onE 1;", 2, 0);
  }

  private static void faultsByNumber() {
    sentence("2 a TOKEN that can not stand there (a NAME that begins no line; or the end: the length)");
    refused("text 1;", 2, 0);
    refused("  people 1;", 2, 2);
    refused("one 1; 2;", 2, 7);
    refused("one", 2, 3);
    refused("one   ", 2, 6);
    refused("one 1", 2, 5);
    refused("one 1 ", 2, 6);

    sentence("3 a NUMBER out of its bounds (points 0 to 12; begin, gone 0 to 99; one 1 to 9)");
    for (String name : new String[] {"middle", "cherry"}) {
      int n = name.length() + 1;
      refused(name + " 13 3;", 3, n);
      refused(name + " 3 13;", 3, n + 2);
      refused(name + " 99 99;", 3, n);
      refused(name + " 12 12;", 9, n + 6);
      refused(name + " 0 0;", 9, n + 4);
    }
    refused("corner 99 0;", 3, 7);
    refused("corner 0 99;", 3, 9);
    refused("corner 12 12;", 6, 13);
    refused("corner 0 0;", 6, 11);
    refused("begin 99;", 10, 9);
    refused("gone 99;", 10, 8);
    taken("begin 0;gone 0;", 2);
    taken("begin 00;gone 00;", 2);
    refused("one 0;", 3, 4);
    refused("one 00;", 3, 4);
    refused("one 10;", 3, 4);
    refused("one 99;", 3, 4);

    sentence("4 middle, begin, gone for the second time (its NAME)");
    refused("middle 3 3; middle 3 3;", 4, 12);
    refused("begin 3; begin 3;", 4, 9);
    refused("gone 3; gone 3;", 4, 8);
    refused("middle 3 3;one 1;middle", 4, 17);
    refused("begin 0;gone 0;begin 0;", 4, 15);
    refused("gone 0;begin 0;gone 0;", 4, 15);
    taken("middle 3 3;begin 3;gone 3;", 3);

    sentence("5 the 9th corner, the 7th one, the 9th cherry (its NAME)");
    refused(EIGHT + " corner 0 0;", 5, EIGHT.length() + 1);
    refused("one 1;".repeat(6) + " one 1;", 5, 37);
    refused("cherry 3 3;".repeat(8) + " cherry 3 3;", 5, 89);
    taken("one 1;".repeat(6) + "cherry 3 3;".repeat(8), 14);
  }

  private static void faultsOfWhole() {
    sentence("6 one or two CORNERS (none: the square)");
    refused("corner 3 3; ", 6, 12);
    refused("corner 0 0;corner 6 0;", 6, 22);
    taken("middle 5 5;", 1);
    taken("corner 0 0;corner 4 0;corner 4 3;middle 3 2;", 4);

    sentence("Behind all (the length), the first of these");
    // 6 ahead of 9 and 10; 7 ahead of 8, 9, 10; 8 ahead of 9, 10; 9 ahead of 10
    refused("corner 3 3;middle 0 0;begin 99;", 6, 31);
    refused("corner 0 0;corner 0 0;gone 99;cherry 0 0;", 6, 41);
    refused("corner 0 0;corner 0 5;corner 6 0;", 7, 33);
    refused("corner 0 0;corner 0 6;corner 6 6;corner 6 0;middle 9 9;", 7, 55);
    refused("corner 0 0;corner 0 6;corner 6 6;corner 6 0;begin 24;", 7, 53);
    refused("corner 0 0;corner 5 0;corner 0 5;middle 9 9;", 8, 44);
    refused("corner 0 0;corner 5 0;corner 0 5;middle 1 1;gone 99;", 8, 52);
    refused("middle 6 3;begin 24;", 9, 20);
    refused("cherry 6 3;gone 24;", 9, 19);
    // a fault that is met while it is read comes ahead of all of them
    refused("corner 3 3;begin 99;one", 2, 23);

    sentence("7 a CORNER at which the way does not turn to the left, or it goes round more than once");
    refused("corner 0 0;corner 6 0;corner 6 6;corner 2 6;corner 2 2;corner 4 2;corner 4 4;corner 0 4;", 7, 88);
    refused("corner 0 0;corner 6 0;corner 6 6;corner 0 6;corner 0 0;corner 6 0;corner 6 6;corner 0 6; ", 7, 89);

    sentence("8 a SIDE whose LENGTH is no whole number");
    refused("corner 0 0;corner 3 0;corner 3 3;middle 2 1;", 8, 44);
    refused("corner 0 0;corner 12 0;corner 12 11;middle 9 3;", 8, 47);
    refused("corner 0 1;corner 1 0;corner 12 0;corner 12 12;corner 0 12;", 8, 59);
    taken("corner 0 0;corner 3 0;corner 3 4;middle 2 1;", 4);
    taken("corner 0 0;corner 12 0;corner 12 9;middle 9 3;", 4);
    taken("corner 0 3;corner 4 0;corner 12 0;corner 12 12;corner 0 12;", 5);

    sentence("9 the MIDDLE, a CHERRY that is not INSIDE");
    for (int i = 0; i < 8; i++) {
      String text = "cherry 1 1;".repeat(i) + "cherry 6 1;" + "cherry 1 1;".repeat(7 - i);
      refused(text, 9, 88);
    }
    refused("cherry 3 3;middle 3 6;", 9, 22);
    refused("cherry 3 6;middle 3 3;", 9, 22);

    sentence("(No middle told: 3 3.)");
    due("the MIDDLE", cake("begin 4;").rule(3), 303);
    CrustCrumb x = cake("middle 1 2;");
    write(x, "begin 4;");
    x.text();
    due("the MIDDLE, told anew", x.rule(3), 303);
    due("the MIDDLE of the smallest", cake(SMALL).rule(3), 303);
    // 3 3 is outside, on the RIM, a corner
    refused("corner 6 6;corner 12 6;corner 12 12;corner 6 12;", 9, 48);
    refused("corner 3 0;corner 12 0;corner 12 12;corner 3 12;", 9, 48);
    refused("corner 3 3;corner 12 3;corner 12 12;corner 3 12;", 9, 48);

    sentence("10 BEGIN, GONE no less than RIM");
    refused(SMALL + "begin 8;", 10, 52);
    refused(SMALL + "gone 8;", 10, 51);
    taken(SMALL + "begin 7;gone 7;", 6);
    taken(LARGE + "begin 47;gone 47;", 6);
    refused(LARGE + "begin 48;gone 47;", 10, 65);
    refused(LARGE + "begin 47;gone 48;", 10, 65);
  }

  private static void takenTellsAll() {
    sentence("A text that is taken tells all, in place of what there was; no MARKS are told, nothing SEEN; IMAGES are gone");
    CrustCrumb x = full();
    x.turn(7);
    x.eat(8);
    x.keep(0);
    x.keep(1);
    x.sheet(0, 1, 40);
    x.read(0, 0, 0, 1);
    write(x, THREE);
    due("text()", x.text(), 4);
    int[] rules = {3, 12, 12, 301, 0, 0, 0, 0};
    for (int i = 0; i < 8; i++) due("rule(" + i + ")", x.rule(i), rules[i]);
    // SHEETS are not told by a text
    int[] counts = {0, 0, 0, 0, 40, 0};
    for (int i = 0; i < 6; i++) due("count(" + i + ")", x.count(i), counts[i]);
    due("torn()", x.torn(), 3);
    due("back(0)", x.back(0), STATE);
    due("back(1)", x.back(1), STATE);
    due("keep(0), none was there", x.keep(0), 0);
    due("corner(3, 0)", x.corner(3, 0), BAD);
    due("share(0)", x.share(0), BAD);
    due("begins(0)", x.begins(0), 12);
    due("mark(0)", x.mark(0), 1);
    due("cut()", x.cut(), 0);

    // by turns: nothing of the one ahead, nor of the one ahead of that, is left
    x = new CrustCrumb();
    for (int i = 0; i < 3; i++) {
      write(x, EIGHT + "begin 5;gone 6;one 1;one 2;cherry 6 6;cherry 5 5;");
      due("text() of much", x.text(), 15);
      x.mark(3);
      x.see(7, 1, true);
      x.keep(i % 2);
      for (int k = 0; k < 2; k++) {
        write(x, THREE);
        due("text() of little", x.text(), 4);
        for (int w = 0; w < 8; w++) due("rule(" + w + ") of little", x.rule(w), rules[w]);
        for (int w = 0; w < 4; w++) due("count(" + w + ") of little", x.count(w), 0);
        due("begins(0) of little", x.begins(0), 12);
        due("rounds(0) of little", x.rounds(0), 1);
        due("round(3, 1) of little", x.round(3, 1), 1);
        due("cut() of little", x.cut(), 0);
      }
    }

    sentence("-10 less the place of its FAULT: that which was told stays");
    x = full();
    x.keep(1);
    write(x, THREE + "one 3;cherry 3 1;begin 5;gone 4;begin");
    due("text()", x.text(), -10 - 76);
    int[] stay = {8, 38, 216, 605, 0, 0, 6, 8};
    for (int i = 0; i < 8; i++) due("rule(" + i + ") stays", x.rule(i), stay[i]);
    int[] countsStay = {6, 8, 1, 0, NONE, 54};
    for (int i = 0; i < 6; i++) due("count(" + i + ") stays", x.count(i), countsStay[i]);
    due("back(1)", x.back(1), 6);
  }

  // ---- cuts

  private static void places() {
    sentence("The first place is BEGIN and GONE; the RIM that is left (RIM less GONE) is parted among PEOPLE by SHARES, by order");
    CrustCrumb x = cake("begin 5;one 1;one 2;one 3;");
    int[] whole = {5, 9, 17};
    for (int p = 0; p < 3; p++) fraction("place(" + p + ")", x.place(p, 0), x.place(p, 1), whole[p], 1);
    x.eat(18);
    int[] six = {23, 24, 26};
    for (int p = 0; p < 3; p++) fraction("place(" + p + "), 18 gone", x.place(p, 0), x.place(p, 1), six[p], 1);
    x.eat(23);
    fraction("place(0), 1 left", x.place(0, 0), x.place(0, 1), 28, 1);
    fraction("place(1), 1 left", x.place(1, 0), x.place(1, 1), 169, 6);
    fraction("place(2), 1 left", x.place(2, 0), x.place(2, 1), 57, 2);
    x.turn(23);
    fraction("place(0), the furthest", x.place(0, 0), x.place(0, 1), 46, 1);
    fraction("place(2), the furthest", x.place(2, 0), x.place(2, 1), 93, 2);
    x.turn(1);
    fraction("place(0) at RIM", x.place(0, 0), x.place(0, 1), 24, 1);

    sentence("from his place to the next one's (of the last one to BEGIN). (What lies from BEGIN to the first place is gone.)");
    for (int many = 1; many <= 6; many++) {
      x = cake("middle 2 1;begin 9;gone 5;" + "one 1;".repeat(many));
      // 19 are left of the crust, and of the crumb all but 3 of the side to the right and 2 of the upper one
      long crusts = 0, crumbs = 0, dues = 0;
      for (int p = 0; p < many; p++) {
        crusts += x.crust(p, 0) * 60 / x.crust(p, 1);
        crumbs += x.crumb(p, 0) * 60 / x.crumb(p, 1);
        dues += x.due(p, 0) * 60 / x.due(p, 1);
      }
      due("all crust of " + many, crusts, 19 * 60);
      due("all crumb of " + many, crumbs, (72 - 3 * 4 - 2 * 5) * 60);
      due("all that is due of " + many, dues, (72 - 3 * 4 - 2 * 5) * 60);
      long end = x.place(many - 1, 0) * 60 / x.place(many - 1, 1) + x.crust(many - 1, 0) * 60 / x.crust(many - 1, 1);
      due("the last one's end of " + many, end, (9 + 24) * 60);
    }
  }

  /** Each is asked as the first behind what is changed. */
  private static void askedAtOnce() {
    sentence("The PIECE of a ONE lies between two CUTS: as BEGIN, GONE, SHARES and the MIDDLE are now");
    CrustCrumb x = cake("one 1;one 1;");
    x.eat(12);
    due("crust(0)", x.crust(0, 0), 6);
    x.eat(4);
    due("due(0)", x.due(0, 0), 30);
    x.turn(3);
    due("place(1)", x.place(1, 0), 17);
    x.give(0, 3);
    due("crumb(0)", x.crumb(0, 0), 45);
    x.give(1, 3);
    due("work(1, 1, 1)", x.work(1, 1, 1, 0), 40);
    x.give(1, 2);
    due("crust(1)", x.crust(1, 0), 8);
    x.eat(9);
    due("due(1)", x.due(1, 0), 18);
    x.move(3, 2);
    due("judge(0)", x.judge(0), 0);
    x.move(3, 3);
    due("off(0)", x.off(0), 0);
    x.join(5);
    due("crust(2) by 2", x.crust(2, 0) * 2 / x.crust(2, 1), 15);
  }

  private static void fairAndOff() {
    sentence("It is FAIR, if each PIECE has its DUE");
    CrustCrumb x = cake("one 1;");
    due("judge(0), alone", x.judge(0), NONE);
    x = cake("middle 3 2;begin 3;one 1;one 1;");
    due("judge(0), halves", x.judge(0), NONE);
    x.turn(4);
    due("judge(0), just off", x.judge(0), 0);
    due("judge(0), nobody", new CrustCrumb().judge(0), NONE);
    // the first and the third have theirs
    x = cake("middle 3 2;begin 6;one 1;one 1;one 1;one 1;");
    due("judge(0), the second and the last are off", x.judge(0), 1);
    due("judge(1)", x.judge(1), 1);

    sentence("OFF: the greatest difference between CRUMB and DUE of a ONE");
    // 6, 24, 30 and 12 of the square's sides where 18 is due of each
    x = cake("middle 2 1;one 1;one 1;one 1;one 1;");
    fraction("off", x.off(0), x.off(1), 12, 1);
    // the upper side is gone; of the others 18, 12, 18 where 16 is due
    x = cake("middle 3 2;begin 12;gone 6;one 1;one 1;one 1;");
    fraction("off, gone", x.off(0), x.off(1), 4, 1);

    sentence("A circle FITS round a point INSIDE, if the point is as far from (the line of) each SIDE");
    // 2 6 and 6 2 are as far from the three lines, not inside
    x = cake(THREE);
    due("round(3, 1)", x.round(3, 1), 1);
    due("round(2, 1)", x.round(2, 1), 0);
    due("round(2, 6), outside", x.round(2, 6), 0);
    due("round(6, 2), outside", x.round(6, 2), 0);
    due("round(4, 0), a CORNER", x.round(4, 0), 0);
    due("round(6, 6) of the largest", cake(LARGE).round(6, 6), 1);
    // the point lies beside the short sides: to their lines it is 4 and 1
    x = cake("corner 3 0;corner 4 0;corner 4 5;corner 0 5;corner 0 4;middle 1 4;");
    fraction("far(0), beside the side", x.far(0, 0), x.far(0, 1), 4, 1);
    fraction("far(3), beside the side", x.far(3, 0), x.far(3, 1), 1, 1);
  }

  private static void cherriesCut() {
    sentence("A CHERRY is CUT, if it lies in the MIDDLE, or straight on a CUT (also those at BEGIN, at the first place)");
    CrustCrumb x = cake("begin 1;gone 1;one 1;cherry 3 3;");
    due("cut(), in the MIDDLE", x.cut(), 1);
    due("cherries(0), in the MIDDLE", x.cherries(0), 0);
    x = cake("begin 1;one 1;cherry 3 4;");
    for (int again = 0; again < 3; again++) {
      due("cut(), away from the MIDDLE", x.cut(), 0);
      due("cherries(0), away from the MIDDLE", x.cherries(0), 1);
      x.move(3, 4);
      due("cut(), the MIDDLE came there", x.cut(), 1);
      due("cherries(0), the MIDDLE came there", x.cherries(0), 0);
      x.move(3, 3);
    }
    x = cake("begin 0;gone 6;one 1;cherry 1 1;");
    due("cut(), at BEGIN", x.cut(), 1);
    x = cake("begin 0;gone 6;one 1;cherry 5 1;");
    due("cut(), at the first place", x.cut(), 1);
    x = cake("begin 21;gone 3;one 1;cherry 1 1;");
    due("cut(), the first place at RIM", x.cut(), 1);
    x = cake("begin 21;gone 9;one 1;cherry 5 1;");
    due("cut(), the first place behind RIM", x.cut(), 1);
    x = cake("one 1;one 2;one 3;cherry 4 3;cherry 3 4;");
    // cuts to 0, 4, 12: none through them
    due("cut(), beside the cuts", x.cut(), 0);
    x = cake("one 1;one 1;one 1;one 1;cherry 1 1;cherry 2 2;cherry 4 4;cherry 5 5;cherry 5 1;cherry 4 2;cherry 1 5;cherry 2 4;");
    due("cut(), all", x.cut(), 8);
    for (int p = 0; p < 4; p++) due("cherries(" + p + "), all cut", x.cherries(p), 0);
    x.turn(1);
    due("cut(), none", x.cut(), 0);
    // a cut to 24 by 7: 3 2 lies on the way to 3, just ahead of it
    x = cake("one 1;one 6;cherry 3 2;");
    due("cut(), just ahead of a cut", x.cut(), 0);
    due("cherries(0), just ahead of a cut", x.cherries(0), 1);
    // a cut to 69 by 2, on the upper side 3 by 2 from its end: straight through 3 10
    x = cake(LARGE + "middle 6 6;gone 30;one 1;one 3;cherry 3 10;");
    due("cut(), at a half", x.cut(), 1);
    due("cherries(0), at a half", x.cherries(0), 0);
    due("cherries(1), at a half", x.cherries(1), 0);
    x = cake(LARGE + "middle 6 6;gone 30;one 1;one 3;cherry 3 11;cherry 3 9;cherry 2 10;cherry 1 8;");
    due("cut(), beside a half", x.cut(), 0);
    due("cherries(0), beside a half", x.cherries(0), 1);
    due("cherries(1), beside a half", x.cherries(1), 3);

    sentence("else it lies in a PIECE, or in what is gone");
    x = cake("gone 6;one 1;one 1;cherry 3 1;cherry 2 1;cherry 4 1;cherry 5 3;cherry 1 4;");
    due("cut()", x.cut(), 0);
    due("cherries(0)", x.cherries(0), 1);
    due("cherries(1)", x.cherries(1), 1);

    sentence("(Without PEOPLE: the CUTS at BEGIN and the first place alone.)");
    x = cake("begin 6;gone 12;cherry 5 1;cherry 1 5;cherry 1 1;cherry 5 5;cherry 3 5;");
    due("cut(), nobody", x.cut(), 2);
    x.eat(0);
    due("cut(), nobody, nothing gone", x.cut(), 1);
    x.turn(5);
    due("cut(), nobody, beside them", x.cut(), 0);
    x.put(3, 3);
    due("cut(), nobody, in the MIDDLE", x.cut(), 1);
    // no cut is left of what was parted ahead: by one alone, by two, by alike()
    for (String people : new String[] {"one 1;", "one 1;one 1;", ""}) {
      for (int begin = 0; begin < 24; begin++) {
        CrustCrumb y = cake("begin " + begin + ";" + people);
        y.cut();
        if (people.isEmpty()) y.alike(1);
        write(y, "begin 13;cherry 1 1;cherry 5 1;cherry 5 5;cherry 1 5;cherry 3 1;cherry 5 3;cherry 3 5;cherry 1 3;");
        y.text();
        due("cut(), nobody any more", y.cut(), 0);
        y.eat(2);
        due("cut(), nobody any more, 2 gone", y.cut(), 1);
      }
    }
  }

  private static void marksAndSeen() {
    sentence("MARKS (6): places on the RIM, each behind the one ahead of it");
    CrustCrumb x = new CrustCrumb();
    int[] ahead = {0, 1, 2, 10, 22, 23};
    for (int i = 0; i < 6; i++) {
      due("mark(" + ahead[i] + ")", x.mark(ahead[i]), i + 1);
      for (int b = 0; b <= ahead[i]; b++) due("mark(" + b + "), not behind", x.mark(b), BAD);
    }
    due("MARKS", x.count(0), 6);
    x = new CrustCrumb();
    for (int i = 0; i < 6; i++) x.mark(i);
    due("the 7th", x.mark(6), FULL);
    due("MARKS, full", x.count(0), 6);

    sentence("the PIECE of ONE k is what lies from MARK k to the next one (of the last to MARK 0, round); nothing is gone");
    // halves of a cake parted left and right, whatever BEGIN and GONE are
    x = cake("middle 3 2;begin 7;gone 9;one 1;one 1;");
    x.mark(3);
    x.mark(15);
    due("told(0)", x.told(0), NONE);
    for (int second = 4; second < 24; second++) {
      x.wipe(1);
      x.mark(second);
      due("told(0), 3 and " + second, x.told(0), second == 15 ? NONE : 0);
      due("told(1), 3 and " + second, x.told(1), second == 15 ? NONE : second > 15 ? 1 : 0);
    }
    x = cake("one 5;one 1;");
    x.mark(0);
    x.mark(20);
    due("told(0), MARK 0 at 0", x.told(0), NONE);
    x = cake("one 1;one 1;one 1;one 1;one 1;one 1;");
    for (int i = 0; i < 6; i++) x.mark(4 * i + 3);
    due("told(0), six", x.told(0), NONE);
    x.wipe(5);
    x.mark(22);
    due("told(0), the fifth", x.told(0), 4);
    due("told(1), the fifth", x.told(1), 0);

    sentence("SEEN (8): whether a CORNER lies in the PIECE of a ONE (at his first place, too; not at the next one's)");
    for (int[] shares : new int[][] {{1}, {1, 1}, {1, 2}, {3, 2, 1}, {1, 1, 1, 1, 1, 1}}) {
      for (int gone = 0; gone < 24; gone++) {
        for (int i = 0; i < 4; i++) seenOf(shares, gone, i, i % shares.length);
      }
    }
    x = cake("one 1;");
    for (int i = 1; i <= 8; i++) due("see()", x.see(i % 4, 0, true), i);
    due("the 9th", x.see(0, 0, true), FULL);
    due("SEEN", x.count(1), 8);
  }

  private static void seenOf(int[] shares, int gone, int i, int p) {
    StringBuilder text = new StringBuilder("gone " + gone + ";");
    int sum = 0, ahead = 0;
    for (int k = 0; k < shares.length; k++) {
      text.append("one ").append(shares[k]).append(';');
      sum += shares[k];
      ahead += k < p ? shares[k] : 0;
    }
    int from = gone * sum + (24 - gone) * ahead, to = from + (24 - gone) * shares[p];
    for (boolean is : new boolean[] {true, false}) {
      int many = 0, first = NONE, last = NONE;
      for (int b = 0; b < 24; b++) {
        int at = Math.floorMod(6 * i - b, 24) * sum;
        if ((at >= from && at < to) != is) continue;
        many++;
        first = first == NONE ? b : first;
        last = b;
      }
      CrustCrumb x = cake(text.toString());
      due("see()", x.see(i, p, is), 1);
      String what = ", CORNER " + i + ", ONE " + p + ", " + is + ", " + text;
      due("begins(0)" + what, x.begins(0), many);
      due("begins(1)" + what, x.begins(1), first);
      due("begins(2)" + what, x.begins(2), last);
    }
  }

  private static void sheets() {
    sentence("SHEETS 0 to 3 are rows of BYTES (lane 0), SHORTS (1), INTS (2) with 0 to 40 CELLS, or nothing (at first)");
    for (int k = 0; k < 4; k++) {
      CrustCrumb x = new CrustCrumb();
      due("lay() of nothing", x.lay(k, 0, 0), -11);
      for (int lane = 0; lane < 3; lane++) {
        int[] cells = {0, 1, 39, 40};
        for (int n : cells) {
          due("sheet(" + k + ", " + lane + ", " + n + ")", x.sheet(k, lane, n), 1);
          due("lay() of the last", x.lay(k, n - 1, 1), n == 0 ? -12 : 1);
          due("lay() behind it", x.lay(k, n, 1), -12);
        }
      }
      for (int other = 0; other < 4; other++) due("lay() of another", x.lay(other, 0, 0), other == k ? 1 : -11);
    }
    only("sheet(k)", 0, 3, CrustCrumb::new, (x, k) -> x.sheet(k, 0, 1));
    only("sheet(lane)", 0, 2, CrustCrumb::new, (x, lane) -> x.sheet(0, lane, 1));

    sentence("A FAULT is what the machine finds: 1 NULL (nothing), 2 INDEX, 3 CAST (another lane), 4 SIZE (below 0)");
    CrustCrumb x = new CrustCrumb();
    due("sheet(0, 0, -1), SIZE", x.sheet(0, 0, -1), -14);
    due("lay(0, 0, 0), NULL", x.lay(0, 0, 0), -11);
    x.read(0, 0, 0, 1);
    due("torn(), NULL", x.torn(), 1);
    x.sheet(0, 0, 1);
    due("lay(0, 1, 0), INDEX", x.lay(0, 1, 0), -12);
    x.read(0, 0, 1, 1);
    due("torn(), INDEX", x.torn(), 2);
    x.read(0, 1, 0, 1);
    due("torn(), CAST", x.torn(), 3);
    for (int lane = 0; lane < 3; lane++) {
      for (int as = 0; as < 3; as++) {
        CrustCrumb y = new CrustCrumb();
        y.sheet(2, lane, 1);
        due("read() of lane " + lane + " as of " + as, y.read(2, as, 0, 1), lane == as ? 1 : 0);
        due("torn() of lane " + lane + " as of " + as, y.torn(), lane == as ? 0 : 3);
      }
    }
  }

  public static void main(String[] args) {
    answersInOrder();
    lowestTerms();
    corners();
    turns();
    middleAndPlaces();
    behindRim();
    peopleAndCherries();
    tape();
    tokens();
    lines();
    faultsByPlace();
    faultsByNumber();
    faultsOfWhole();
    takenTellsAll();
    places();
    askedAtOnce();
    fairAndOff();
    cherriesCut();
    marksAndSeen();
    sheets();
    tellAll();
  }
}
