/** Each promise of the document by hand: ordinary inputs, the edges that it names, wrong inputs. */
public final class PromisesTest extends Asked {
  /** Nothing of what was told goes. */
  private static void refusedAndStays(String text, int fault, int place) {
    CrustCrumb x = cake("corner 1 1; corner 11 1; corner 11 11; corner 1 11; middle 5 6; begin 7; gone 8; one 9; cherry 2 3;");
    x.mark(4);
    x.see(0, 0, true);
    x.keep(1);
    write(x, text);
    due("text() of '" + text + "'", x.text(), -10 - place);
    due("fault() of '" + text + "'", x.fault(), fault);
    due("the tape behind '" + text + "'", x.count(3), 0);
    int[] stays = {4, 40, 200, 506, 7, 8, 1, 1};
    for (int i = 0; i < 8; i++) due("rule(" + i + ") behind '" + text + "'", x.rule(i), stays[i]);
    due("marks behind '" + text + "'", x.count(0), 1);
    due("seen behind '" + text + "'", x.count(1), 1);
    due("images behind '" + text + "'", x.count(2), 1);
  }

  private static void newObject() {
    sentence("promise 1");
    CrustCrumb x = new CrustCrumb();
    int[] rules = {4, 24, 72, 303, 0, 0, 0, 0};
    for (int i = 0; i < 8; i++) due("rule(" + i + ")", x.rule(i), rules[i]);
    int[] counts = {0, 0, 0, 0, -4, 0};
    for (int i = 0; i < 6; i++) due("count(" + i + ")", x.count(i), counts[i]);
    int[][] corners = {{0, 0, 6, 0}, {6, 0, 6, 6}, {6, 6, 6, 12}, {0, 6, 6, 18}};
    for (int i = 0; i < 4; i++) for (int w = 0; w < 4; w++) due("corner(" + i + ", " + w + ")", x.corner(i, w), corners[i][w]);
    due("fault()", x.fault(), 0);
    due("torn()", x.torn(), 0);
    for (int k = 0; k < 4; k++) due("lay(" + k + ", 0, 0)", x.lay(k, 0, 0), -11);
    due("back(0)", x.back(0), -2);
    due("back(1)", x.back(1), -2);
    CrustCrumb y = new CrustCrumb();
    y.join(3);
    due("another's rule(6)", x.rule(6), 0);
  }

  private static void feedAndEnd() {
    sentence("promise 2");
    CrustCrumb x = new CrustCrumb();
    for (int i = 1; i <= 40; i++) due("feed", x.feed(-1L), 8 * i);
    due("feed behind 320", x.feed(0), -3);
    due("bytes", x.count(3), 320);
    x.end(313);
    due("feed to 321", x.feed(0), -3);
    x.end(312);
    due("feed to 320", x.feed(0), 320);
    // the highest first: "one 3;" and two blanks
    x = new CrustCrumb();
    x.feed(0x6f6e6520333b2020L);
    due("text()", x.text(), 1);
    due("share(0)", x.share(0), 3);

    sentence("promise 3");
    x = new CrustCrumb();
    due("end(0)", x.end(0), 0);
    due("end(1)", x.end(1), -1);
    x.feed(0x6f6e6520333b3b3bL);
    due("end(9)", x.end(9), -1);
    due("end(-1)", x.end(-1), -1);
    due("end(LOW)", x.end(LOW), -1);
    due("end(HIGH)", x.end(HIGH), -1);
    due("bytes", x.count(3), 8);
    due("end(8)", x.end(8), 8);
    due("end(6)", x.end(6), 8);
    due("end(7)", x.end(7), -1);
    due("text()", x.text(), 1);
  }

  private static void textAndFault() {
    sentence("promise 4, 5");
    taken("", 0);
    taken("   ", 0);
    taken("one1;one 02 ; one 3;", 3);
    taken("begin 23; gone 00;middle 5 1 ;cherry 1 5;", 4);
    taken("cherry 3 3;cherry 3 3;", 2);
    taken("corner 0 0; corner 3 0; corner 3 4; middle 2 1;", 4);

    CrustCrumb x = cake("one 1; begin 5;");
    x.mark(1);
    x.see(1, 0, false);
    x.keep(0);
    x.keep(1);
    x.sheet(0, 0, 3);
    x.read(0, 1, 0, 1);
    write(x, "gone 2;");
    due("text()", x.text(), 1);
    int[] rules = {4, 24, 72, 303, 0, 2, 0, 0};
    for (int i = 0; i < 8; i++) due("rule(" + i + ") anew", x.rule(i), rules[i]);
    int[] counts = {0, 0, 0, 0, 3, 0};
    for (int i = 0; i < 6; i++) due("count(" + i + ") anew", x.count(i), counts[i]);
    due("back(1) anew", x.back(1), -2);
    due("torn() stays", x.torn(), 3);
    write(x, "one");
    due("text()", x.text(), -13);
    due("fault()", x.fault(), 2);
    due("text() of nothing", x.text(), 0);
    due("fault()", x.fault(), 0);
    due("gone, told of nothing", x.rule(5), 0);
    // what end() took away is not read
    String[] ended = {"one 12;;", "ones 1;;", "one 1;;;"};
    int[] kept = {5, 3, 0};
    int[] answers = {-15, -13, 0};
    for (int i = 0; i < 3; i++) {
      write(x, ended[i]);
      x.end(kept[i]);
      due("text() of the first " + kept[i] + " of " + ended[i], x.text(), answers[i]);
    }
    taken("corner 3 0;corner 4 0;corner 4 1;corner 0 4;middle 3 1;", 5);
    textBehindText();
    scanFaults();
    wholeFaults();
  }

  /** What an earlier text, taken or refused, has told must not come back. */
  private static void textBehindText() {
    CrustCrumb x = new CrustCrumb();
    String full = EIGHT + "one 1; begin 5; gone 6; cherry 6 6; one 2;";
    for (int i = 0; i < 3; i++) {
      write(x, full);
      due("text() of all", x.text(), 14);
      x.mark(3);
      x.see(7, 1, true);
      write(x, full + "?");
      due("text() of all and a fault", x.text() + full.length(), -10);
      due("CORNERS", x.rule(0), 8);
      for (int k = 0; k < 2; k++) {
        due("text() of nothing", x.text(), 0);
        int[] rules = {4, 24, 72, 303, 0, 0, 0, 0};
        for (int w = 0; w < 8; w++) due("rule(" + w + ") of nothing", x.rule(w), rules[w]);
        for (int w = 0; w < 4; w++) due("count(" + w + ") of nothing", x.count(w), 0);
      }
    }
  }

  private static void scanFaults() {
    refusedAndStays("ONE 1;", 1, 0);
    refusedAndStays("one\n1;", 1, 3);
    refusedAndStays("one 1: ", 1, 5);
    refusedAndStays("one 100;", 1, 4);
    refusedAndStays("one 001;", 1, 4);
    refusedAndStays("123;", 1, 0);
    refusedAndStays("one 1;\u0000", 1, 6);
    refusedAndStays("one 1;\u00ff", 1, 6);
    refusedAndStays("one 1;`", 1, 6);
    refusedAndStays("one 1;{", 1, 6);
    refusedAndStays("one 1;/", 1, 6);
    refusedAndStays("one 1;:", 1, 6);

    refusedAndStays("a", 2, 0);
    refusedAndStays("z", 2, 0);
    refusedAndStays("bne 1;", 2, 0);
    refusedAndStays("ond 1;", 2, 0);
    refusedAndStays("ones 1;", 2, 0);
    refusedAndStays("on 1;", 2, 0);
    refusedAndStays("onecorner 1;", 2, 0);
    refusedAndStays(" ; ", 2, 1);
    refusedAndStays("one 1;;", 2, 6);
    refusedAndStays("7", 2, 0);
    refusedAndStays("one", 2, 3);
    refusedAndStays("one  ", 2, 5);
    refusedAndStays("one 1", 2, 5);
    refusedAndStays("one 1  ", 2, 7);
    refusedAndStays("one one;", 2, 4);
    refusedAndStays("one ;", 2, 4);
    refusedAndStays("one 1 2;", 2, 6);
    refusedAndStays("one 1 one", 2, 6);
    refusedAndStays("middle 3;", 2, 8);
    refusedAndStays("middle 3 3 3;", 2, 11);
    refusedAndStays("middle 33;", 3, 7);

    refusedAndStays("one 0;", 3, 4);
    refusedAndStays("one 10 ?", 3, 4);
    refusedAndStays("corner 13 0;", 3, 7);
    refusedAndStays("corner 0 13;", 3, 9);
    refusedAndStays("middle 0 99;", 3, 9);
    refusedAndStays("cherry 13 ?", 3, 7);

    refusedAndStays("middle 3 3;middle ?", 4, 11);
    refusedAndStays("begin 0; begin 0;", 4, 9);
    refusedAndStays("gone 0;gone 99", 4, 7);
    refusedAndStays("begin 0;gone 1;begin", 4, 15);

    String corner = "corner 1 1;", one = "one 1;", cherry = "cherry 1 1;";
    refusedAndStays(corner.repeat(8) + "corner ?", 5, 88);
    refusedAndStays(one.repeat(6) + "one 0;", 5, 36);
    refusedAndStays(cherry.repeat(8) + "cherry 13 13;", 5, 88);
    taken(one.repeat(6), 6);
    taken(cherry.repeat(8), 8);
  }

  private static void wholeFaults() {
    refusedAndStays("corner 1 1;", 6, 11);
    refusedAndStays("corner 1 1;corner 0 0; begin 99; ", 6, 33);
    // to the right; straight on; back; the same corner twice
    refusedAndStays("corner 0 0;corner 0 6;corner 6 6;corner 6 0;", 7, 44);
    refusedAndStays("corner 0 0;corner 3 0;corner 6 0;corner 6 6;corner 0 6;", 7, 55);
    refusedAndStays("corner 0 0;corner 6 0;corner 3 0;", 7, 33);
    refusedAndStays("corner 0 0;corner 0 0;corner 6 0;corner 6 6;corner 0 6;", 7, 55);
    refusedAndStays("corner 0 0;corner 6 0;corner 6 6;corner 5 1;corner 0 6;", 7, 55);
    // twice round, with a middle to the left of each side and whole lengths
    refusedAndStays("corner 0 0;corner 6 0;corner 6 6;corner 2 6;corner 2 2;corner 4 2;corner 4 4;corner 0 4;", 7, 88);
    refusedAndStays("corner 6 0;corner 9 12;corner 0 5;corner 12 5;corner 3 12;", 7, 58);
    refusedAndStays("corner 0 0;corner 6 0;corner 0 6;middle 9 9;", 8, 44);
    refusedAndStays("corner 0 0;corner 6 0;corner 6 5;corner 0 6;", 8, 44);
    refusedAndStays("corner 6 6;corner 12 6;corner 12 12;corner 6 12;", 9, 48);
    refusedAndStays("middle 0 3;begin 24;", 9, 20);
    refusedAndStays("middle 6 6;", 9, 11);
    refusedAndStays("cherry 3 3;cherry 3 0;", 9, 22);
    refusedAndStays("cherry 7 3;gone 24;", 9, 19);
    refusedAndStays("begin 24;", 10, 9);
    refusedAndStays("gone 24;begin 1;", 10, 16);
    refusedAndStays("gone 99;", 10, 8);
  }

  /** Sides 12, 5, 13; a circle of 2 fits. */
  private static final String RIGHT = "corner 0 0; corner 12 0; corner 12 5; middle 10 2;";
  private static final String RHOMBUS = "corner 3 0; corner 6 4; corner 3 8; corner 0 4; middle 3 4;";

  private static void rules() {
    sentence("promise 6");
    CrustCrumb x = cake(RIGHT + "begin 29; gone 28; one 2; one 3; cherry 11 1;");
    int[] rules = {3, 30, 60, 1002, 29, 28, 2, 1};
    for (int i = 0; i < 8; i++) due("rule(" + i + ")", x.rule(i), rules[i]);
    int[] bad = {-1, 8, LOW, HIGH};
    for (int w : bad) due("rule(" + w + ")", x.rule(w), -1);

    sentence("promise 7");
    int[][] corners = {{0, 0, 12, 0}, {12, 0, 5, 12}, {12, 5, 13, 17}};
    for (int i = 0; i < 3; i++) for (int w = 0; w < 4; w++) due("corner(" + i + ", " + w + ")", x.corner(i, w), corners[i][w]);
    due("corner(3, 0)", x.corner(3, 0), -1);
    due("corner(-1, 0)", x.corner(-1, 0), -1);
    due("corner(LOW, 0)", x.corner(LOW, 0), -1);
    due("corner(HIGH, 0)", x.corner(HIGH, 0), -1);
    due("corner(0, 4)", x.corner(0, 4), -1);
    due("corner(0, -1)", x.corner(0, -1), -1);
    CrustCrumb e = cake(EIGHT);
    due("RIM of eight", e.rule(1), 38);
    due("corner(7, 3)", e.corner(7, 3), 33);
    due("corner(7, 2)", e.corner(7, 2), 5);
    due("corner(8, 2)", e.corner(8, 2), -1);

    sentence("promise 8");
    due("share(0)", x.share(0), 2);
    due("share(1)", x.share(1), 3);
    due("share(2)", x.share(2), -1);
    due("share(-1)", x.share(-1), -1);
    due("share(HIGH)", x.share(HIGH), -1);
  }

  private static void changes() {
    sentence("promise 9");
    CrustCrumb x = cake(RIGHT + "one 2;");
    due("move(11, 1)", x.move(11, 1), 1002);
    due("move(11, 4), close to two sides", x.move(11, 4), 1101);
    due("move(11, 1)", x.move(11, 1), 1104);
    int[][] out = {{12, 2}, {6, 0}, {0, 0}, {1, 3}, {13, 2}, {-1, 2}, {LOW, 2}, {2, HIGH}, {HIGH, HIGH}, {65546, 65538}};
    for (int[] p : out) due("move(" + p[0] + ", " + p[1] + ")", x.move(p[0], p[1]), -1);
    due("rule(3)", x.rule(3), 1101);

    CrustCrumb small = cake("corner 0 0; corner 4 0; corner 4 3; middle 3 1;");
    // a spread of 1 from the longest side
    due("move(3, 2)", small.move(3, 2), 301);
    due("move(2, 1)", small.move(2, 1), 302);
    due("move(1, 1)", small.move(1, 1), -1);
    CrustCrumb short1 = cake("corner 3 0; corner 4 0; corner 4 5; corner 0 5; corner 0 4; middle 1 4;");
    due("a length of 1", short1.corner(0, 2) + 10 * short1.corner(3, 2), 11);
    due("RIM", short1.rule(1), 1 + 5 + 4 + 1 + 5);
    due("AREA", short1.rule(2), 2 * (20 - 6));
    CrustCrumb wide = cake("corner 0 0; corner 12 0; corner 12 9;middle 9 3;");
    due("a length of 15", wide.corner(2, 2), 15);
    due("round(9, 3)", wide.round(9, 3), 1);

    sentence("promise 10, 11");
    due("turn(29)", x.turn(29), 0);
    due("eat(29)", x.eat(29), 0);
    int[] bad = {30, -1, LOW, HIGH};
    for (int v : bad) {
      due("turn(" + v + ")", x.turn(v), -1);
      due("eat(" + v + ")", x.eat(v), -1);
    }
    due("turn(0)", x.turn(0), 29);
    due("eat(3)", x.eat(3), 29);
    due("BEGIN", x.rule(4), 0);
    due("GONE", x.rule(5), 3);

    sentence("promise 12");
    due("give(0, 9)", x.give(0, 9), 2);
    due("give(0, 1)", x.give(0, 1), 9);
    int[][] wrongGifts = {{1, 1}, {-1, 1}, {HIGH, 1}, {0, 0}, {0, 10}, {0, -1}, {0, HIGH}};
    for (int[] g : wrongGifts) due("give(" + g[0] + ", " + g[1] + ")", x.give(g[0], g[1]), -1);
    due("share(0)", x.share(0), 1);

    sentence("promise 13");
    int[] noShare = {0, 10, -1, LOW, HIGH};
    for (int v : noShare) due("join(" + v + ")", x.join(v), -1);
    for (int i = 2; i <= 6; i++) due("join(" + (i + 3) + ")", x.join(i + 3), i);
    due("join(10), full", x.join(10), -1);
    due("join(1), full", x.join(1), -3);
    due("share(5)", x.share(5), 9);
    due("PEOPLE", x.rule(6), 6);

    sentence("promise 14");
    for (int[] p : out) due("put(" + p[0] + ", " + p[1] + ")", x.put(p[0], p[1]), -1);
    for (int i = 1; i <= 8; i++) due("put(11, 2)", x.put(11, 2), i);
    due("put(12, 2), full", x.put(12, 2), -1);
    due("put(11, 2), full", x.put(11, 2), -3);
    due("CHERRIES", x.rule(7), 8);
  }

  private static void badOnes(CrustCrumb x, int people) {
    int[][] bad = {{people, 0}, {-1, 0}, {LOW, 0}, {HIGH, 1}, {0, 2}, {0, -1}, {0, HIGH}};
    for (int[] b : bad) {
      String s = "(" + b[0] + ", " + b[1] + ")";
      due("place" + s, x.place(b[0], b[1]), -1);
      due("crumb" + s, x.crumb(b[0], b[1]), -1);
      due("crust" + s, x.crust(b[0], b[1]), -1);
      due("due" + s, x.due(b[0], b[1]), -1);
      due("work" + s, x.work(b[0], 1, 1, b[1]), -1);
    }
  }

  private static void pieces() {
    sentence("promise 15");
    CrustCrumb x = cake("begin 20; gone 3; one 1; one 2; one 4;");
    fraction("place(0)", x.place(0, 0), x.place(0, 1), 23, 1);
    fraction("place(1)", x.place(1, 0), x.place(1, 1), 26, 1);
    fraction("place(2)", x.place(2, 0), x.place(2, 1), 32, 1);
    x.eat(4);
    fraction("place(1), thirds of seven", x.place(1, 0), x.place(1, 1), 188, 7);
    badOnes(x, 3);
    badOnes(new CrustCrumb(), 0);
    CrustCrumb zero = cake("one 3;");
    fraction("place(0) at 0", zero.place(0, 0), zero.place(0, 1), 0, 1);

    sentence("promise 16");
    // the middle is 2 from the lower side, 4 from the upper, 3 from the others
    x = cake("middle 3 2; one 1; one 1;");
    fraction("crumb(0)", x.crumb(0, 0), x.crumb(0, 1), 12 + 18, 1);
    fraction("crumb(1)", x.crumb(1, 0), x.crumb(1, 1), 24 + 18, 1);
    x.give(1, 6);
    // 24 by 7 of the lower side, 2 each
    fraction("crumb(0) of sevenths", x.crumb(0, 0), x.crumb(0, 1), 48, 7);
    fraction("crumb(1) of sevenths", x.crumb(1, 0), x.crumb(1, 1), 456, 7);
    x = cake("one 5;");
    fraction("crumb of the whole", x.crumb(0, 0), x.crumb(0, 1), 72, 1);
    x.turn(23);
    x.eat(23);
    fraction("crumb of the last length", x.crumb(0, 0), x.crumb(0, 1), 3, 1);
    // from 17 round to 3, over the last side and corner 0
    x = cake("middle 3 2; begin 13; gone 4; one 1; one 1;");
    fraction("crumb round the end", x.crumb(0, 0), x.crumb(0, 1), 4 + 3 * 6 + 2 * 3, 1);

    sentence("promise 17");
    x = cake("begin 20; gone 4; one 1; one 2; one 4;");
    fraction("crust(0)", x.crust(0, 0), x.crust(0, 1), 20, 7);
    fraction("crust(2)", x.crust(2, 0), x.crust(2, 1), 80, 7);
    x.eat(3);
    fraction("crust(1)", x.crust(1, 0), x.crust(1, 1), 6, 1);

    sentence("promise 18");
    x = cake("middle 3 2; begin 6; gone 6; one 1; one 2;");
    // left: 24 above, 18 aside, 12 below
    fraction("due(0)", x.due(0, 0), x.due(0, 1), 18, 1);
    fraction("due(1)", x.due(1, 0), x.due(1, 1), 36, 1);
    x.give(1, 3);
    fraction("due(0)", x.due(0, 0), x.due(0, 1), 27, 2);
    fraction("due(1)", x.due(1, 0), x.due(1, 1), 81, 2);

    sentence("promise 19");
    x = cake("middle 3 2; one 1; one 6;");
    fraction("work(0, 3, 5)", x.work(0, 3, 5, 0), x.work(0, 3, 5, 1), 3 * 48 + 5 * 24, 7);
    fraction("work(0, 0, 0)", x.work(0, 0, 0, 0), x.work(0, 0, 0, 1), 0, 1);
    fraction("work(0, 0, 99)", x.work(0, 0, 99, 0), x.work(0, 0, 99, 1), 99 * 24, 7);
    fraction("work(1, 99, 99)", x.work(1, 99, 99, 0), x.work(1, 99, 99, 1), 99 * 456 + 99 * 144, 7);
    int[][] wages = {{-1, 0}, {100, 0}, {0, -1}, {0, 100}, {LOW, HIGH}};
    for (int[] w : wages) due("work(0, " + w[0] + ", " + w[1] + ", 0)", x.work(0, w[0], w[1], 0), -1);
  }

  private static void fair() {
    sentence("promise 20");
    CrustCrumb x = cake("one 1; one 2; one 3;");
    due("judge(0), fair", x.judge(0), -4);
    due("judge(1), fair", x.judge(1), -4);
    due("judge(2), fair", x.judge(2), -1);
    due("judge(-1)", x.judge(-1), -1);
    x.move(3, 2);
    due("judge(0)", x.judge(0), 0);
    due("judge(1), less", x.judge(1), 0);
    x.turn(12);
    due("judge(0)", x.judge(0), 0);
    due("judge(1), more", x.judge(1), 1);
    // the side to the right is 3 from the middle as is the mean of all
    x = cake("middle 3 2; begin 6; one 1; one 1; one 1; one 1;");
    due("judge(0), the second", x.judge(0), 1);
    due("judge(1), the second", x.judge(1), 1);
    due("judge(0), nobody", new CrustCrumb().judge(0), -4);
    due("judge(3), nobody", new CrustCrumb().judge(3), -1);

    sentence("promise 21");
    fraction("off", x.off(0), x.off(1), 6, 1);
    due("off(2)", x.off(2), -1);
    due("off(-1)", x.off(-1), -1);
    due("off(0), nobody", new CrustCrumb().off(0), -2);
    due("off(2), nobody", new CrustCrumb().off(2), -1);
    x = cake("middle 3 2; one 1; one 6;");
    fraction("off of sevenths", x.off(0), x.off(1), 24, 7);
    x = cake("middle 3 2; one 1; one 1; one 1; one 3;");
    // 4 each of the lower side, 2 and 2 of right, 4 of right, 12 of the rest: 8, 10, 12, 42 where 12, 12, 12, 36 is due
    fraction("off, the last", x.off(0), x.off(1), 6, 1);
    x = cake("middle 3 2; begin 12; one 1; one 1; one 1; one 1;");
    // 24, 18, 12, 18
    fraction("off, the first", x.off(0), x.off(1), 6, 1);
    x = cake("middle 3 1; begin 12; gone 6; one 1; one 1; one 1;");
    // left: 18 aside, 6 below, 18 aside
    fraction("off, the second is least", x.off(0), x.off(1), 8, 1);
    x = cake("middle 3 5; begin 18; gone 6; one 2; one 1; one 1;");
    // left: 30 below, 18 right, 6 above, by 9, 4 1/2, 4 1/2
    fraction("off, the first alone", x.off(0), x.off(1), 12, 1);
    x.move(3, 3);
    fraction("off, fair", x.off(0), x.off(1), 0, 1);
  }

  private static void circles() {
    sentence("promise 22");
    CrustCrumb x = cake(RIGHT);
    fraction("far(0)", x.far(0, 0), x.far(0, 1), 2, 1);
    fraction("far(1)", x.far(1, 0), x.far(1, 1), 2, 1);
    fraction("far(2)", x.far(2, 0), x.far(2, 1), 2, 1);
    x.move(11, 1);
    fraction("far(2)", x.far(2, 0), x.far(2, 1), 43, 13);
    int[][] bad = {{3, 0}, {-1, 0}, {LOW, 1}, {HIGH, 1}, {0, 2}, {0, -1}};
    for (int[] b : bad) due("far(" + b[0] + ", " + b[1] + ")", x.far(b[0], b[1]), -1);

    sentence("promise 23");
    due("round(10, 2)", x.round(10, 2), 1);
    due("round(11, 1)", x.round(11, 1), 0);
    due("round(12, 2), on the rim", x.round(12, 2), 0);
    due("round(0, 12), outside", x.round(0, 12), 0);
    due("round(12, 0), a corner", x.round(12, 0), 0);
    due("round(0, 0), a corner", x.round(0, 0), 0);
    due("round(12, 12), outside", x.round(12, 12), 0);
    int[][] far = {{13, 0}, {0, 13}, {-1, 0}, {0, -1}, {LOW, LOW}, {HIGH, HIGH}};
    for (int[] b : far) due("round(" + b[0] + ", " + b[1] + ")", x.round(b[0], b[1]), -1);
    CrustCrumb rhombus = cake(RHOMBUS);
    due("round(3, 4) of a rhombus", rhombus.round(3, 4), 1);
    // as far from each line but outside: beyond a corner of the triangle 9 12 15
    CrustCrumb t = cake("corner 0 0; corner 4 0; corner 4 3; middle 3 1;");
    due("round(3, 1)", t.round(3, 1), 1);
    due("round(2, 6), a circle outside", t.round(2, 6), 0);
    due("round(6, 2), a circle outside", t.round(6, 2), 0);

    sentence("promise 24");
    due("rounds(0)", x.rounds(0), 1);
    due("rounds(1)", x.rounds(1), 1002);
    CrustCrumb oblong = cake("corner 1 1; corner 5 1; corner 5 11; corner 1 11;");
    due("rounds(0) of an oblong", oblong.rounds(0), 0);
    due("rounds(1) of an oblong", oblong.rounds(1), -4);
    due("rounds(2)", oblong.rounds(2), -1);
    due("rounds(-1)", oblong.rounds(-1), -1);
    due("round(3, 3) of an oblong", oblong.round(3, 3), 0);
    due("rounds(0) of an odd square", cake("corner 2 2; corner 5 2; corner 5 5; corner 2 5;").rounds(0), 0);
    due("rounds(1) of a rhombus", rhombus.rounds(1), 304);
  }

  private static void nearest() {
    sentence("promise 25");
    CrustCrumb x = cake("middle 3 2; one 1; one 1;");
    // from 3 and from 15 the halves are alike: right and left of the middle
    due("best(0)", x.best(0), 3);
    fraction("best", x.best(1), x.best(2), 0, 1);
    due("BEGIN stays", x.rule(4), 0);
    due("best(3)", x.best(3), -1);
    due("best(-1)", x.best(-1), -1);
    due("best(0), nobody", new CrustCrumb().best(0), -2);
    due("best(3), nobody", new CrustCrumb().best(3), -1);
    due("best(0), all fair", cake("one 1; one 2;").best(0), 0);
    x = cake("middle 3 2; gone 12; one 1; one 1;");
    // what is left from 3 to 15: 3 below, 6 right, 3 above
    due("best(0), half gone", x.best(0), 9);
    fraction("best, half gone", x.best(1), x.best(2), 0, 1);

    sentence("promise 26");
    x = cake("middle 3 2; one 1; one 1; one 1; one 1;");
    due("centre(0)", x.centre(0), 303);
    fraction("centre", x.centre(1), x.centre(2), 0, 1);
    due("MIDDLE stays", x.rule(3), 302);
    due("centre(3)", x.centre(3), -1);
    due("centre(-1)", x.centre(-1), -1);
    due("centre(0), nobody", new CrustCrumb().centre(0), -2);
    due("centre(-1), nobody", new CrustCrumb().centre(-1), -1);
    due("centre(0), alone", cake("one 1;").centre(0), 101);
    due("centre(0) of the eight, alone", cake(EIGHT + "one 4;").centre(0), 103);
    // lower and right against upper and left: alike on the way from corner 0 to corner 2
    x = cake("middle 5 1; one 1; one 1;");
    due("centre(0), halves", x.centre(0), 101);
    // lower against all else, one to three: alike wherever y is 3
    x = cake("middle 5 1; one 1; one 3;");
    due("centre(0), a quarter", x.centre(0), 103);
    // each piece is a side, 1 or 2 from a whole point: 3 or 6 where 9 by 2 is due
    x = cake("corner 2 2; corner 5 2; corner 5 5; corner 2 5; middle 4 4; one 1; one 1; one 1; one 1;");
    due("centre(0), none is fair", x.centre(0), 303);
    fraction("centre, none is fair", x.centre(1), x.centre(2), 3, 2);
    // 9 of the longest side against the lower one and 1 more: alike where both are as far, 3 1 and 6 2
    x = cake("corner 0 0; corner 8 0; corner 8 6; middle 5 1; begin 8; gone 6; one 1; one 1;");
    due("centre(0), a slice gone", x.centre(0), 301);

    sentence("promise 27");
    x = new CrustCrumb();
    for (int n = 1; n <= 9; n++) due("alike(" + n + ")", x.alike(n), 24);
    int[] bad = {0, 10, -1, LOW, HIGH};
    for (int n : bad) due("alike(" + n + ")", x.alike(n), -1);
    x.move(3, 2);
    x.eat(5);
    x.join(7);
    due("alike(1), aside", x.alike(1), 24);
    due("alike(2), aside", x.alike(2), 2);
    due("alike(3), aside", x.alike(3), 0);
    due("alike(4), aside", x.alike(4), 0);
    // as far from each side: from everywhere
    for (int n = 1; n <= 9; n++) due("alike(" + n + ") of a rhombus", cake(RHOMBUS).alike(n), 20);
    CrustCrumb oblong = cake("corner 0 0; corner 4 0; corner 4 8; corner 0 8; middle 2 4;");
    // opposite places are alike; quarters are fair if each has 2 of a short side, 4 of a long one
    due("alike(2) of an oblong", oblong.alike(2), 24);
    due("alike(3) of an oblong", oblong.alike(3), 0);
    due("alike(4) of an oblong", oblong.alike(4), 4);
    // all but the sides of 1 and 5 are as far, and those two together are: fair while they lie in one piece
    CrustCrumb five = cake("corner 7 12; corner 0 12; corner 5 0; corner 11 8; corner 11 9; middle 6 8;");
    int[] many = {0, 36, 26, 21, 16, 7, 6, 0, 0, 0};
    for (int n = 1; n <= 9; n++) due("alike(" + n + ") of five sides", five.alike(n), many[n]);
  }

  private static void cherries() {
    sentence("promise 28, 29");
    CrustCrumb x = cake("one 1; one 1; one 1; one 1; cherry 3 3; cherry 1 1; cherry 3 1; cherry 5 3; cherry 4 4; cherry 2 5; cherry 3 5;");
    // cuts to the four corners: the middle, 1 1 and 4 4 are cut
    due("cut()", x.cut(), 3);
    int[] many = {1, 1, 2, 0};
    for (int p = 0; p < 4; p++) due("cherries(" + p + ")", x.cherries(p), many[p]);
    due("cherries(4)", x.cherries(4), -1);
    due("cherries(-1)", x.cherries(-1), -1);
    due("cherries(LOW)", x.cherries(LOW), -1);
    due("cherries(HIGH)", x.cherries(HIGH), -1);
    // a cut to one side does not go on to the other
    x = cake("begin 3; one 1; cherry 3 5; cherry 3 1;");
    due("cut(), one side", x.cut(), 1);
    due("cherries(0), the other", x.cherries(0), 1);
    // gone from 0 to 6: both its cuts count; what lies in it is nobody's
    x = cake("gone 6; one 2; cherry 1 1; cherry 5 1; cherry 3 1; cherry 5 5; cherry 1 5;");
    due("cut(), a slice gone", x.cut(), 2);
    due("cherries(0), a slice gone", x.cherries(0), 2);
    // nobody: the cuts at begin and the first place alone
    x = cake("gone 6; cherry 1 1; cherry 5 1; cherry 3 1; cherry 5 5;");
    due("cut(), nobody", x.cut(), 2);
    due("cherries(0), nobody", x.cherries(0), -1);
    due("cut(), nothing", new CrustCrumb().cut(), 0);
    // the cuts go to thirds of the rim, 8 and 16: no cherry lies there but near
    x = cake("one 1; one 1; one 1; cherry 5 3; cherry 4 3; cherry 2 3; cherry 1 5;");
    due("cut(), thirds", x.cut(), 0);
    due("cherries(0), thirds", x.cherries(0), 0);
    due("cherries(1), thirds", x.cherries(1), 2);
    due("cherries(2), thirds", x.cherries(2), 2);
    // a cherry that lies ahead of the begin is in the last piece, round the end
    x = cake("begin 21; gone 1; one 1; one 1; cherry 1 2; cherry 1 4;");
    due("cherries(0), round the end", x.cherries(0), 1);
    due("cherries(1), round the end", x.cherries(1), 1);

    // moved on to the middle and away from it
    x = cake("begin 1; one 1; cherry 3 4;");
    due("cut(), away", x.cut(), 0);
    x.move(3, 4);
    due("cut(), in the middle", x.cut(), 1);
    due("cherries(0), in the middle", x.cherries(0), 0);
    x.move(3, 3);
    due("cut(), away again", x.cut(), 0);
    due("cherries(0), away again", x.cherries(0), 1);

    sentence("promise 30");
    due("gentle(0), at first", cake("cherry 1 1;").gentle(0), 1);
    due("gentle(0), at first", cake("one 1; one 1; cherry 1 1; cherry 1 3; cherry 4 5;").gentle(0), 1);
    due("gentle(0), at first", cake("one 1; one 1; cherry 1 1; cherry 3 5; cherry 3 1;").gentle(0), 1);
    due("gentle(0), at first, the second's cut", cake("one 1; one 1; cherry 5 5;").gentle(0), 1);
    // cherries on the ways to 0 and 2; the cuts go to begin and one on
    CrustCrumb y = cake("corner 0 0;corner 12 0;corner 12 12;corner 0 12;middle 6 6;gone 1;one 1;cherry 3 3;cherry 4 3;");
    due("gentle(0), from 3", y.gentle(0), 3);
    due("gentle(1), from 3", y.gentle(1), 0);
    x = cake("one 1; one 1; cherry 3 3; cherry 1 1; cherry 1 3;");
    due("gentle(0)", x.gentle(0), 1);
    due("gentle(1)", x.gentle(1), 1);
    due("gentle(2)", x.gentle(2), -1);
    due("gentle(-1)", x.gentle(-1), -1);
    due("BEGIN stays", x.rule(4), 0);
    x.eat(23);
    // begin and first place 0 23, 1 0, and the cut half an end on, none on a cherry but those
    due("gentle(0), 23 gone", x.gentle(0), 2);
    due("gentle(1), 23 gone", x.gentle(1), 1);
    x = cake("gone 1; cherry 1 1; cherry 5 1;");
    due("gentle(0), nobody", x.gentle(0), 1);
    due("gentle(1), nobody", x.gentle(1), 0);
    due("gentle(0), nothing", new CrustCrumb().gentle(0), 0);
    due("gentle(1), nothing", new CrustCrumb().gentle(1), 0);
  }

  private static void marks() {
    sentence("promise 31");
    CrustCrumb x = new CrustCrumb();
    int[] bad = {-1, 24, LOW, HIGH};
    for (int b : bad) due("mark(" + b + ")", x.mark(b), -1);
    due("mark(0)", x.mark(0), 1);
    due("mark(0)", x.mark(0), -1);
    due("mark(2)", x.mark(2), 2);
    due("mark(1)", x.mark(1), -1);
    for (int i = 3; i <= 6; i++) due("mark(" + i + ")", x.mark(i), i);
    due("mark(6), full", x.mark(6), -1);
    due("mark(24), full", x.mark(24), -1);
    due("mark(23), full", x.mark(23), -3);
    due("MARKS", x.count(0), 6);

    sentence("promise 32");
    int[] no = {7, -1, LOW, HIGH};
    for (int n : no) due("wipe(" + n + ")", x.wipe(n), -1);
    due("wipe(6)", x.wipe(6), 6);
    due("wipe(1)", x.wipe(1), 6);
    due("wipe(2)", x.wipe(2), -1);
    due("mark(1)", x.mark(1), 2);
    due("wipe(0)", x.wipe(0), 2);
    due("wipe(0)", x.wipe(0), 0);

    sentence("promise 33");
    x = cake("begin 5; gone 7; one 1; one 2;");
    due("told(0), no marks", x.told(0), -2);
    x.mark(2);
    due("told(0), one of two", x.told(0), -2);
    due("told(2), one of two", x.told(2), -1);
    due("told(-1)", x.told(-1), -1);
    x.mark(10);
    due("told(0)", x.told(0), -4);
    due("told(1)", x.told(1), -4);
    x.wipe(1);
    x.mark(11);
    due("told(0), too much", x.told(0), 0);
    due("told(1), too much", x.told(1), 1);
    x.wipe(1);
    x.mark(9);
    due("told(0), too little", x.told(0), 0);
    due("told(1), too little", x.told(1), 0);
    x.mark(12);
    due("told(0), three of two", x.told(0), -2);
    due("told(0), nobody", new CrustCrumb().told(0), -2);
    x = cake("one 4;");
    x.mark(17);
    due("told(0), alone", x.told(0), -4);
    x = cake("one 1; one 1; one 2;");
    x.mark(4);
    x.mark(10);
    x.mark(17);
    due("told(0), the second", x.told(0), 1);
    due("told(1), the second", x.told(1), 1);
    x = cake("middle 3 2; one 1; one 2; one 3;");
    // 12 of 72: the lower side; 24: right and 1 1/2 above, which no mark can tell
    x.mark(0);
    x.mark(6);
    x.mark(13);
    due("told(0), aside", x.told(0), 1);
    due("told(1), aside", x.told(1), 0);
    // halves: right and left of the middle
    x = cake("middle 3 2; one 1; one 1;");
    x.mark(3);
    x.mark(15);
    due("told(0), halves aside", x.told(0), -4);
    x.wipe(1);
    x.mark(14);
    due("told(1), less aside", x.told(1), 0);
    x.wipe(1);
    x.mark(16);
    due("told(1), more aside", x.told(1), 1);
  }

  private static void seen() {
    sentence("promise 34");
    CrustCrumb x = cake("one 1; one 1;");
    int[][] bad = {{4, 0}, {-1, 0}, {0, 2}, {0, -1}, {LOW, LOW}, {HIGH, HIGH}};
    for (int[] b : bad) due("see(" + b[0] + ", " + b[1] + ")", x.see(b[0], b[1], true), -1);
    due("see(0, 0), nobody", new CrustCrumb().see(0, 0, true), -1);
    due("see(0, 0, true)", x.see(0, 0, true), 1);

    sentence("promise 36");
    // corner 0 lies in the first half from begin 0 and from 13 to 23
    due("begins(0)", x.begins(0), 12);
    due("begins(1)", x.begins(1), 0);
    due("begins(2)", x.begins(2), 23);
    due("see(1, 0, false)", x.see(1, 0, false), 2);
    // corner 1, at 6, lies in the second half from 7 to 18
    due("begins(0)", x.begins(0), 6);
    due("begins(1)", x.begins(1), 13);
    due("begins(2)", x.begins(2), 18);
    due("BEGIN stays", x.rule(4), 0);
    due("see(1, 1, false)", x.see(1, 1, false), 3);
    due("begins(0), none", x.begins(0), 0);
    due("begins(1), none", x.begins(1), -4);
    due("begins(2), none", x.begins(2), -4);
    due("begins(3)", x.begins(3), -1);
    due("begins(-1)", x.begins(-1), -1);

    sentence("promise 35");
    int[] no = {4, -1, LOW, HIGH};
    for (int n : no) due("forget(" + n + ")", x.forget(n), -1);
    due("forget(3)", x.forget(3), 3);
    due("forget(1)", x.forget(1), 3);
    due("begins(0), the first alone", x.begins(0), 12);
    due("forget(0)", x.forget(0), 1);
    due("begins(0), nothing seen", x.begins(0), 24);
    due("begins(2), nothing seen", x.begins(2), 23);
    for (int i = 1; i <= 8; i++) due("see(2, 1, true)", x.see(2, 1, true), i);
    due("see, full", x.see(2, 1, false), -3);
    due("see(4, 0), full", x.see(4, 0, false), -1);

    sentence("promise 36");
    // gone: a corner there is nobody's; at the first place it is the first one's
    x = cake("gone 6; one 1;");
    x.see(1, 0, true);
    due("begins(0), a slice gone", x.begins(0), 18);
    due("begins(1), a slice gone", x.begins(1), 0);
    x.forget(0);
    x.see(1, 0, false);
    due("begins(0), a corner gone", x.begins(0), 6);
    due("begins(1), a corner gone", x.begins(1), 1);
    due("begins(2), a corner gone", x.begins(2), 6);
    due("begins(0), nobody", new CrustCrumb().begins(0), 24);
  }

  private static void images() {
    sentence("promise 37, 38");
    CrustCrumb x = cake("one 3; one 4; begin 1; gone 2; middle 2 3; cherry 4 5; cherry 1 2;");
    x.mark(7);
    x.mark(9);
    x.see(1, 1, false);
    int[] no = {2, -1, LOW, HIGH};
    for (int k : no) {
      due("keep(" + k + ")", x.keep(k), -1);
      due("back(" + k + ")", x.back(k), -1);
    }
    due("back(0)", x.back(0), -2);
    due("keep(0)", x.keep(0), 0);
    due("back(1)", x.back(1), -2);
    due("IMAGES", x.count(2), 1);
    x.give(0, 9);
    x.join(1);
    x.move(5, 5);
    x.turn(10);
    x.eat(11);
    x.put(5, 1);
    x.wipe(0);
    x.mark(20);
    x.forget(0);
    due("keep(1)", x.keep(1), 0);
    due("IMAGES", x.count(2), 2);
    due("back(0)", x.back(0), 2);
    int[] first = {4, 24, 72, 203, 1, 2, 2, 2};
    for (int i = 0; i < 8; i++) due("rule(" + i + ") of image 0", x.rule(i), first[i]);
    due("share(0)", x.share(0), 3);
    due("MARKS", x.count(0), 2);
    due("mark(9)", x.mark(9), -1);
    due("SEEN", x.count(1), 1);
    due("back(1)", x.back(1), 3);
    int[] second = {4, 24, 72, 505, 10, 11, 3, 3};
    for (int i = 0; i < 8; i++) due("rule(" + i + ") of image 1", x.rule(i), second[i]);
    due("share(0)", x.share(0), 9);
    due("MARKS", x.count(0), 1);
    due("SEEN", x.count(1), 0);
    imagesOfRows();
    due("keep(0) again", x.keep(0), 1);
    x.turn(0);
    due("back(0)", x.back(0), 3);
    due("BEGIN", x.rule(4), 10);
    due("IMAGES", x.count(2), 2);
  }

  private static void imagesOfRows() {
    CrustCrumb x = cake("one 1; one 1;");
    x.keep(1);
    x.put(1, 1);
    x.put(3, 1);
    x.mark(5);
    x.mark(17);
    x.see(1, 0, true);
    x.see(2, 1, false);
    due("keep(0)", x.keep(0), 0);
    due("cut()", x.cut(), 1);
    due("begins(0)", x.begins(0), 6);
    // all rows are written anew
    due("back(1)", x.back(1), 2);
    x.put(5, 3);
    x.put(3, 3);
    x.mark(20);
    x.mark(21);
    x.see(3, 1, false);
    x.see(0, 0, true);
    x.give(0, 9);
    x.give(1, 9);
    due("back(0)", x.back(0), 2);
    due("cut() of the image", x.cut(), 1);
    due("cherries(0) of the image", x.cherries(0), 1);
    due("begins(0) of the image", x.begins(0), 6);
    due("begins(1) of the image", x.begins(1), 1);
    due("told(0) of the image", x.told(0), -4);
    due("mark(18) behind the image's", x.mark(18), 3);
  }

  private static void sheets() {
    sentence("promise 39");
    CrustCrumb x = new CrustCrumb();
    int[][] bad = {{4, 0, 1}, {-1, 0, 1}, {0, 3, 1}, {0, -1, 1}, {0, 0, 41}, {4, 0, -1}, {0, 3, -1}, {LOW, LOW, LOW}, {0, 0, HIGH}};
    for (int[] b : bad) due("sheet(" + b[0] + ", " + b[1] + ", " + b[2] + ")", x.sheet(b[0], b[1], b[2]), -1);
    due("sheet(0, 0, -1)", x.sheet(0, 0, -1), -14);
    due("sheet(3, 2, LOW)", x.sheet(3, 2, LOW), -14);
    due("nothing yet", x.count(4), -4);
    due("sheet(0, 2, 0)", x.sheet(0, 2, 0), 1);
    due("CELLS", x.count(4), 0);
    due("lay(0, 0, 1)", x.lay(0, 0, 1), -12);
    due("sheet(0, 1, 40)", x.sheet(0, 1, 40), 1);
    due("CELLS", x.count(4), 40);
    due("sheet(0, 1, -5)", x.sheet(0, 1, -5), -14);
    due("CELLS stay", x.count(4), 40);
    due("lay(0, 0, 5)", x.lay(0, 0, 5), 1);
    due("sheet(0, 1, 2)", x.sheet(0, 1, 2), 1);
    due("read(0, 1, 0, 1)", x.read(0, 1, 0, 1), 1);
    due("mark(1): the cell is new", x.mark(1), 2);

    sentence("promise 40");
    due("lay(4, 0, 0)", x.lay(4, 0, 0), -1);
    due("lay(-1, 0, 0)", x.lay(-1, 0, 0), -1);
    due("lay(1, -1, 0)", x.lay(1, -1, 0), -11);
    due("lay(0, -1, 0)", x.lay(0, -1, 0), -12);
    due("lay(0, 2, 0)", x.lay(0, 2, 0), -12);
    due("lay(0, LOW, 0)", x.lay(0, LOW, 0), -12);
    due("lay(0, HIGH, 0)", x.lay(0, HIGH, 0), -12);
    int[][] bits = {{0, 256 + 7, 1}, {0, 128, -20}, {1, 65536 + 7, 1}, {1, 256 + 7, -20}, {1, 32768, -20}, {2, 7, 1}, {2, 65536 + 7, -20}};
    for (int[] b : bits) {
      x.wipe(0);
      x.sheet(2, b[0], 1);
      x.lay(2, 0, b[1]);
      due("read of lane " + b[0] + " of " + b[1], x.read(2, b[0], 0, 1), b[2]);
      if (b[2] == 1) due("mark(8) behind 7", x.mark(7) + x.mark(8), -1 + 2);
    }
  }

  private static void reads() {
    sentence("promise 41, 42");
    CrustCrumb x = new CrustCrumb();
    x.sheet(1, 1, 8);
    for (int i = 0; i < 8; i++) x.lay(1, i, 2 * i);
    int[][] bad = {{4, 0, 0, 1}, {-1, 0, 0, 1}, {1, 3, 0, 1}, {1, -1, 0, 1}, {1, 1, 0, 7}, {1, 1, 0, -1}, {0, 0, 0, HIGH}};
    for (int[] b : bad) due("read(" + b[0] + ", " + b[1] + ", " + b[2] + ", " + b[3] + ")", x.read(b[0], b[1], b[2], b[3]), -1);
    due("read(1, 1, 0, 6)", x.read(1, 1, 0, 6), 6);
    due("torn()", x.torn(), 0);
    due("read(1, 1, 6, 1), full", x.read(1, 1, 6, 1), -20);
    x.wipe(0);
    due("read(1, 1, 6, 4), two come", x.read(1, 1, 6, 4), 2);
    due("torn(), INDEX", x.torn(), 2);
    due("MARKS", x.count(0), 2);
    due("read(1, 1, 0, 1), refused", x.read(1, 1, 0, 1), -20);
    due("torn() stays", x.torn(), 2);
    due("read(7, 0, 0, 1), bad", x.read(7, 0, 0, 1), -1);
    due("torn() stays", x.torn(), 2);
    due("read(1, 0, 0, 1), CAST", x.read(1, 0, 0, 1), 0);
    due("torn()", x.torn(), 3);
    due("read(1, 2, -1, 1), CAST ahead of INDEX", x.read(1, 2, -1, 1), 0);
    due("torn()", x.torn(), 3);
    due("read(2, 2, -1, 1), NULL", x.read(2, 2, -1, 1), 0);
    due("torn()", x.torn(), 1);
    due("read(1, 1, -1, 3), INDEX", x.read(1, 1, -1, 3), 0);
    due("torn()", x.torn(), 2);
    due("read(1, 1, HIGH, 6), INDEX", x.read(1, 1, HIGH, 6), 0);
    due("torn()", x.torn(), 2);
    due("read(1, 1, LOW, 6), INDEX", x.read(1, 1, LOW, 6), 0);
    due("MARKS", x.count(0), 2);
    due("read(1, 1, 3, 0), nothing read", x.read(1, 1, 3, 0), 0);
    due("torn()", x.torn(), 0);
    due("read(1, 1, 99, 0), nothing read", x.read(1, 1, 99, 0), 0);
    due("torn()", x.torn(), 0);
    due("read(2, 1, 0, 0), nothing read of nothing", x.read(2, 1, 0, 0), 0);
    due("torn()", x.torn(), 0);
    readsOfNoMarks(x);
    // the third is refused: the first two go too; whichever is met first
    x.wipe(0);
    x.mark(1);
    x.lay(1, 7, 99);
    due("read(1, 1, 5, 3)", x.read(1, 1, 5, 3), -22);
    due("MARKS", x.count(0), 1);
    due("read(1, 1, 5, 6), refused ahead of INDEX", x.read(1, 1, 5, 6), -22);
    due("mark(2)", x.mark(2), 2);
    x.mark(3);
    x.mark(4);
    x.mark(5);
    due("read(1, 1, 3, 2), full at the second", x.read(1, 1, 3, 2), -21);
    due("MARKS", x.count(0), 5);
    due("read(1, 1, 3, 1)", x.read(1, 1, 3, 1), 1);
    due("MARKS", x.count(0), 6);
  }

  /** SHEET 1 is of SHORTS, SHEET 2 of nothing: whatever FAULT there was, a read() of no MARKS has none. */
  private static void readsOfNoMarks(CrustCrumb x) {
    int[][] torn = {{1, 0, 0, 3}, {1, 1, 8, 2}, {2, 2, 0, 1}};
    int marks = x.count(0);
    for (int[] t : torn) {
      for (int k = 1; k <= 2; k++) {
        for (int lane = 0; lane <= 2; lane++) {
          for (int f : new int[] {0, 8, -1, LOW, HIGH}) {
            due("read() with a FAULT", x.read(t[0], t[1], t[2], 1), 0);
            due("torn()", x.torn(), t[3]);
            due("read(" + k + ", " + lane + ", " + f + ", 0)", x.read(k, lane, f, 0), 0);
            due("torn() behind read(" + k + ", " + lane + ", " + f + ", 0)", x.torn(), 0);
          }
        }
      }
    }
    due("MARKS stay", x.count(0), marks);
  }

  private static void counts() {
    sentence("promise 43");
    CrustCrumb x = cake("one 9; one 1; one 4;");
    due("count(5)", x.count(5), 14);
    x.feed(0);
    due("count(3)", x.count(3), 8);
    x.sheet(1, 0, 5);
    due("count(4)", x.count(4), -4);
    x.sheet(0, 0, 7);
    due("count(4)", x.count(4), 7);
    x.keep(1);
    due("count(2)", x.count(2), 1);
    x.mark(3);
    due("count(0)", x.count(0), 1);
    x.see(0, 0, true);
    x.see(0, 0, true);
    due("count(1)", x.count(1), 2);
    int[] no = {6, -1, LOW, HIGH};
    for (int w : no) due("count(" + w + ")", x.count(w), -1);
  }

  public static void main(String[] args) {
    newObject();
    feedAndEnd();
    textAndFault();
    rules();
    changes();
    pieces();
    fair();
    circles();
    nearest();
    cherries();
    marks();
    seen();
    images();
    sheets();
    reads();
    counts();
    tellAll();
  }
}
