import java.util.ArrayList;
import java.util.List;
import java.util.Random;

/**
 * Long runs of mixed calls, each answer held against a second, slow program written from the document alone:
 * it walks the rim point by point in fractions, and shares no formula with the class.
 */
public final class OracleTest {
  private static int wrong = 0;
  private static final StringBuilder run = new StringBuilder();

  // ---- fractions and points

  record Q(long n, long d) {
    static Q of(long n, long d) {
      long g = gcd(Math.abs(n), Math.abs(d));
      if (d < 0) g = -g;
      return new Q(n / g, d / g);
    }
    static Q of(long n) { return new Q(n, 1); }
    static long gcd(long a, long b) { return b == 0 ? a : gcd(b, a % b); }
    Q plus(Q o) { return of(Math.addExact(Math.multiplyExact(n, o.d), Math.multiplyExact(o.n, d)), Math.multiplyExact(d, o.d)); }
    Q minus(Q o) { return plus(new Q(-o.n, o.d)); }
    Q times(Q o) { return of(Math.multiplyExact(n, o.n), Math.multiplyExact(d, o.d)); }
    int sign() { return Long.signum(n); }
    int compare(Q o) { return minus(o).sign(); }
    Q abs() { return new Q(Math.abs(n), d); }
    long part(int what) { return what == 0 ? n : d; }
  }

  record P(Q x, Q y) {
    static P of(int x, int y) { return new P(Q.of(x), Q.of(y)); }
    P minus(P o) { return new P(x.minus(o.x), y.minus(o.y)); }
    Q cross(P o) { return x.times(o.y).minus(y.times(o.x)); }
    Q dot(P o) { return x.times(o.x).plus(y.times(o.y)); }
  }

  // ---- the second program

  static final class Fault extends RuntimeException {
    private static final long serialVersionUID = 1L;
    final int what, place;
    Fault(int what, int place) { this.what = what; this.place = place; }
  }

  record Sight(int corner, int one, boolean is) {}

  record Image(int mx, int my, int begin, int gone, List<Integer> shares, List<int[]> cherries,
               List<Integer> marks, List<Sight> sights) {}

  static final class Model {
    List<int[]> corners = List.of(new int[] {0, 0}, new int[] {6, 0}, new int[] {6, 6}, new int[] {0, 6});
    int mx = 3, my = 3, begin = 0, gone = 0, fault = 0, torn = 0;
    List<Integer> shares = new ArrayList<>();
    List<int[]> cherries = new ArrayList<>();
    List<Integer> marks = new ArrayList<>();
    List<Sight> sights = new ArrayList<>();
    Image[] images = new Image[2];
    Object[] sheets = new Object[4];
    String tape = "";

    int n() { return corners.size(); }
    int[] c(int i) { return corners.get(i % n()); }
    double rawLength(int i) { return Math.hypot(c(i + 1)[0] - c(i)[0], c(i + 1)[1] - c(i)[1]); }
    int length(int i) { return (int) Math.round(rawLength(i)); }
    int start(int i) { int s = 0; for (int k = 0; k < i; k++) s += length(k); return s; }
    int rim() { return start(n()); }
    int area() {
      int a = 0;
      for (int i = 0; i < n(); i++) a += c(i)[0] * c(i + 1)[1] - c(i)[1] * c(i + 1)[0];
      return a;
    }
    static int side(int[] a, int[] b, int x, int y) { return (b[0] - a[0]) * (y - a[1]) - (b[1] - a[1]) * (x - a[0]); }
    boolean inside(int x, int y) {
      if (x < 0 || y < 0 || x > 12 || y > 12) return false;
      for (int i = 0; i < n(); i++) if (side(c(i), c(i + 1), x, y) <= 0) return false;
      return true;
    }
    static boolean meet(int[] a, int[] b, int[] c, int[] d) {
      int s1 = Integer.signum(side(a, b, c[0], c[1])), s2 = Integer.signum(side(a, b, d[0], d[1]));
      int s3 = Integer.signum(side(c, d, a[0], a[1])), s4 = Integer.signum(side(c, d, b[0], b[1]));
      if (s1 * s2 < 0 && s3 * s4 < 0) return true;
      return on(a, b, c, s1) || on(a, b, d, s2) || on(c, d, a, s3) || on(c, d, b, s4);
    }
    static boolean on(int[] a, int[] b, int[] p, int s) {
      return s == 0 && Math.min(a[0], b[0]) <= p[0] && p[0] <= Math.max(a[0], b[0])
          && Math.min(a[1], b[1]) <= p[1] && p[1] <= Math.max(a[1], b[1]);
    }
    boolean simpleAndLeft() {
      for (int i = 0; i < n(); i++) if (side(c(i), c(i + 1), c(i + 2)[0], c(i + 2)[1]) <= 0) return false;
      for (int i = 0; i < n(); i++) for (int j = i + 2; j < n(); j++) {
        if (i == 0 && j == n() - 1) continue;
        if (meet(c(i), c(i + 1), c(j), c(j + 1))) return false;
      }
      return true;
    }

    // the text
    int at;
    record Token(char kind, String text, int place) {}
    Token token() {
      while (at < tape.length() && tape.charAt(at) == ' ') at++;
      int from = at;
      if (at == tape.length()) return new Token('e', "", from);
      String rest = tape.substring(at);
      String name = rest.replaceFirst("(?s)^([a-z]*).*$", "$1");
      if (!name.isEmpty()) { at += name.length(); return new Token('n', name, from); }
      String figures = rest.replaceFirst("(?s)^([0-9]*).*$", "$1");
      if (figures.length() > 2) throw new Fault(1, from);
      if (!figures.isEmpty()) { at += figures.length(); return new Token('0', figures, from); }
      if (rest.charAt(0) != ';') throw new Fault(1, from);
      at++;
      return new Token(';', ";", from);
    }
    Token want(char kind) {
      Token t = token();
      if (t.kind != kind) throw new Fault(2, t.place);
      return t;
    }
    int number(int low, int high) {
      Token t = want('0');
      int v = Integer.parseInt(t.text);
      if (v < low || v > high) throw new Fault(3, t.place);
      return v;
    }
    static Model parse(String text, int[] lines) {
      Model m = new Model();
      m.tape = text;
      List<int[]> corners = new ArrayList<>();
      boolean middle = false, begin = false, gone = false;
      for (Token t = m.token(); t.kind != 'e'; t = m.token()) {
        if (t.kind != 'n') throw new Fault(2, t.place);
        switch (t.text) {
          case "corner" -> {
            if (corners.size() == 8) throw new Fault(5, t.place);
            corners.add(new int[] {m.number(0, 12), m.number(0, 12)});
          }
          case "middle" -> {
            if (middle) throw new Fault(4, t.place);
            middle = true; m.mx = m.number(0, 12); m.my = m.number(0, 12);
          }
          case "begin" -> {
            if (begin) throw new Fault(4, t.place);
            begin = true; m.begin = m.number(0, 99);
          }
          case "gone" -> {
            if (gone) throw new Fault(4, t.place);
            gone = true; m.gone = m.number(0, 99);
          }
          case "one" -> {
            if (m.shares.size() == 6) throw new Fault(5, t.place);
            m.shares.add(m.number(1, 9));
          }
          case "cherry" -> {
            if (m.cherries.size() == 8) throw new Fault(5, t.place);
            m.cherries.add(new int[] {m.number(0, 12), m.number(0, 12)});
          }
          default -> throw new Fault(2, t.place);
        }
        m.want(';');
        lines[0]++;
      }
      if (corners.size() == 1 || corners.size() == 2) throw new Fault(6, text.length());
      if (!corners.isEmpty()) m.corners = corners;
      if (!m.simpleAndLeft()) throw new Fault(7, text.length());
      for (int i = 0; i < m.n(); i++) {
        if (Math.abs(m.rawLength(i) - m.length(i)) > 1e-9) throw new Fault(8, text.length());
      }
      if (!m.inside(m.mx, m.my)) throw new Fault(9, text.length());
      for (int[] ch : m.cherries) if (!m.inside(ch[0], ch[1])) throw new Fault(9, text.length());
      if (m.begin >= m.rim() || m.gone >= m.rim()) throw new Fault(10, text.length());
      return m;
    }
    int text() {
      String was = tape;
      tape = "";
      try {
        int[] lines = {0};
        Model m = parse(was, lines);
        corners = m.corners; mx = m.mx; my = m.my; begin = m.begin; gone = m.gone;
        shares = m.shares; cherries = m.cherries;
        marks = new ArrayList<>(); sights = new ArrayList<>(); images = new Image[2];
        fault = 0;
        return lines[0];
      } catch (Fault f) {
        fault = f.what;
        return -10 - f.place;
      }
    }

    // pieces
    P rimPoint(Q place) {
      Q t = place;
      while (t.compare(Q.of(rim())) >= 0) t = t.minus(Q.of(rim()));
      for (int i = 0; ; i++) {
        if (t.compare(Q.of(start(i) + length(i))) < 0) {
          Q part = t.minus(Q.of(start(i))).times(Q.of(1, length(i)));
          return new P(Q.of(c(i)[0]).plus(part.times(Q.of(c(i + 1)[0] - c(i)[0]))),
              Q.of(c(i)[1]).plus(part.times(Q.of(c(i + 1)[1] - c(i)[1]))));
        }
      }
    }
    List<P> walk(Q from, Q to) {
      List<P> points = new ArrayList<>();
      points.add(rimPoint(from));
      for (int round = 0; round < 3; round++) {
        for (int i = 0; i < n(); i++) {
          Q s = Q.of(start(i) + round * rim());
          if (s.compare(from) > 0 && s.compare(to) < 0) points.add(P.of(c(i)[0], c(i)[1]));
        }
      }
      points.add(rimPoint(to));
      return points;
    }
    Q crumb(int mx, int my, Q from, Q to) {
      P m = P.of(mx, my);
      List<P> w = walk(from, to);
      Q sum = Q.of(0);
      for (int i = 0; i + 1 < w.size(); i++) sum = sum.plus(w.get(i).minus(m).cross(w.get(i + 1).minus(m)));
      return sum;
    }
    static int sum(List<Integer> shares) { int s = 0; for (int v : shares) s += v; return s; }
    Q place(int p, int begin, int gone, List<Integer> shares) {
      if (p == shares.size()) return Q.of(begin + rim());
      return Q.of(begin + gone).plus(Q.of((long) (rim() - gone) * sum(shares.subList(0, p)), Math.max(1, sum(shares))));
    }
    Q crumbOf(int p, int mx, int my, int begin, int gone, List<Integer> shares) {
      return crumb(mx, my, place(p, begin, gone, shares), place(p + 1, begin, gone, shares));
    }
    Q dueOf(int p, int mx, int my, int begin, int gone, List<Integer> shares) {
      return crumb(mx, my, Q.of(begin + gone), Q.of(begin + rim())).times(Q.of(shares.get(p), sum(shares)));
    }
    Q off(int mx, int my, int begin, int gone, List<Integer> shares) {
      Q off = Q.of(0);
      for (int p = 0; p < shares.size(); p++) {
        Q d = crumbOf(p, mx, my, begin, gone, shares).minus(dueOf(p, mx, my, begin, gone, shares)).abs();
        if (d.compare(off) > 0) off = d;
      }
      return off;
    }

    // circles
    boolean fits(int x, int y) {
      if (!inside(x, y)) return false;
      Q first = Q.of(side(c(0), c(1), x, y), length(0));
      for (int i = 0; i < n(); i++) if (!Q.of(side(c(i), c(i + 1), x, y), length(i)).equals(first)) return false;
      return true;
    }

    // cherries: -1 is cut, -2 is gone
    boolean onCut(P d, Q place) {
      P r = rimPoint(place).minus(P.of(mx, my));
      return r.cross(d).sign() == 0 && r.dot(d).sign() > 0;
    }
    boolean between(P d, Q from, Q to) {
      P m = P.of(mx, my);
      List<P> w = walk(from, to);
      for (int i = 0; i + 1 < w.size(); i++) {
        P a = w.get(i).minus(m), b = w.get(i + 1).minus(m);
        if (a.cross(b).sign() > 0 && a.cross(d).sign() >= 0 && d.cross(b).sign() > 0) return true;
      }
      return false;
    }
    int where(int[] cherry, int begin) {
      if (cherry[0] == mx && cherry[1] == my) return -1;
      P d = P.of(cherry[0] - mx, cherry[1] - my);
      if (onCut(d, Q.of(begin)) || onCut(d, Q.of(begin + gone))) return -1;
      for (int p = 0; p < shares.size(); p++) if (onCut(d, place(p, begin, gone, shares))) return -1;
      for (int p = 0; p < shares.size(); p++) {
        if (between(d, place(p, begin, gone, shares), place(p + 1, begin, gone, shares))) return p;
      }
      return -2;
    }
    int many(int where, int begin) {
      int many = 0;
      for (int[] c : cherries) if (where(c, begin) == where) many++;
      return many;
    }

    // seen
    boolean lies(int corner, int one, int begin) {
      Q at = Q.of(start(corner));
      if (at.compare(Q.of(begin)) < 0) at = at.plus(Q.of(rim()));
      return at.compare(place(one, begin, gone, shares)) >= 0 && at.compare(place(one + 1, begin, gone, shares)) < 0;
    }
    boolean allSeen(int begin) {
      for (Sight s : sights) if (lies(s.corner, s.one, begin) != s.is) return false;
      return true;
    }

    int mark(int b) {
      if (b < 0 || b >= rim() || !marks.isEmpty() && b <= marks.get(marks.size() - 1)) return -1;
      if (marks.size() == 6) return -3;
      marks.add(b);
      return marks.size();
    }

    // here the machine's own faults are the answer
    int read(int k, int lane, int f, int n) {
      if (k < 0 || k > 3 || lane < 0 || lane > 2 || n < 0 || n > 6) return -1;
      List<Integer> had = new ArrayList<>(marks);
      int found = 0, came = 0;
      try {
        for (; came < n; came++) {
          Object row = sheets[k];
          int v = lane == 0 ? ((byte[]) row)[f + came] : lane == 1 ? ((short[]) row)[f + came] : ((int[]) row)[f + came];
          if (mark(v) < 0) { marks = had; return -20 - came; }
        }
      } catch (NullPointerException e) { found = 1;
      } catch (ArrayIndexOutOfBoundsException e) { found = 2;
      } catch (ClassCastException e) { found = 3; }
      torn = found;
      return came;
    }
    int lay(int k, int i, int v) {
      if (k < 0 || k > 3) return -1;
      try {
        if (sheets[k] instanceof byte[] b) b[i] = (byte) v;
        else if (sheets[k] instanceof short[] s) s[i] = (short) v;
        else ((int[]) sheets[k])[i] = v;
        return 1;
      } catch (NullPointerException e) { return -11;
      } catch (ArrayIndexOutOfBoundsException e) { return -12; }
    }
    int sheet(int k, int lane, int n) {
      if (k < 0 || k > 3 || lane < 0 || lane > 2 || n > 40) return -1;
      try {
        sheets[k] = lane == 0 ? new byte[n] : lane == 1 ? new short[n] : new int[n];
        return 1;
      } catch (NegativeArraySizeException e) { return -14; }
    }

    Image image() {
      return new Image(mx, my, begin, gone, new ArrayList<>(shares), new ArrayList<>(cherries),
          new ArrayList<>(marks), new ArrayList<>(sights));
    }
    void become(Image i) {
      mx = i.mx; my = i.my; begin = i.begin; gone = i.gone;
      shares = new ArrayList<>(i.shares); cherries = new ArrayList<>(i.cherries);
      marks = new ArrayList<>(i.marks); sights = new ArrayList<>(i.sights);
    }
  }

  // ---- what is asked

  private static void due(String call, long got, long want) {
    run.append(call).append(" -> ").append(got).append('\n');
    if (got != want) {
      wrong++;
      System.out.println(run + "due is " + want);
      if (wrong > 3) System.exit(1);
    }
  }

  private static int any(Random r, int low, int high) { return low + r.nextInt(high - low + 1); }

  private static int odd(Random r, int low, int high) {
    int[] far = {Integer.MIN_VALUE, Integer.MAX_VALUE, -1, high + 2, low - 1, high + 1};
    return r.nextInt(12) == 0 ? far[r.nextInt(far.length)] : any(r, low, high);
  }

  private static boolean is(int v, int low, int high) { return v >= low && v <= high; }

  /** A cake with whole sides: whole steps sorted by their way, closed by one more; null if that fails. */
  static List<int[]> cake(Random r) {
    int[][] ways = {{1, 0}, {0, 1}, {-1, 0}, {0, -1}, {3, 4}, {4, 3}, {-3, 4}, {-4, 3}, {3, -4}, {4, -3}, {-3, -4},
        {-4, -3}, {5, 12}, {12, 5}, {-5, 12}, {-12, 5}, {5, -12}, {12, -5}, {-5, -12}, {-12, -5}};
    int k = any(r, 2, 7), x = 0, y = 0;
    List<int[]> steps = new ArrayList<>();
    for (int i = 0; i < k; i++) {
      int[] w = ways[r.nextInt(r.nextInt(4) == 0 ? 20 : r.nextInt(3) == 0 ? 4 : 12)];
      int by = Math.abs(w[0]) + Math.abs(w[1]) == 1 ? any(r, 1, 12) : any(r, 1, 2);
      steps.add(new int[] {w[0] * by, w[1] * by});
      x += w[0] * by; y += w[1] * by;
    }
    steps.add(new int[] {-x, -y});
    steps.sort((a, b) -> Double.compare(Math.atan2(a[1], a[0]), Math.atan2(b[1], b[0])));
    List<int[]> corners = new ArrayList<>();
    int cx = 0, cy = 0, lx = 0, ly = 0, hx = 0, hy = 0;
    for (int[] s : steps) {
      corners.add(new int[] {cx, cy});
      cx += s[0]; cy += s[1];
      lx = Math.min(lx, cx); ly = Math.min(ly, cy); hx = Math.max(hx, cx); hy = Math.max(hy, cy);
    }
    if (hx - lx > 12 || hy - ly > 12) return null;
    int mx = any(r, 0, 12 - (hx - lx)) - lx, my = any(r, 0, 12 - (hy - ly)) - ly;
    List<int[]> moved = new ArrayList<>();
    int turn = r.nextInt(corners.size());
    for (int i = 0; i < corners.size(); i++) {
      int[] c = corners.get((i + turn) % corners.size());
      moved.add(new int[] {c[0] + mx, c[1] + my});
    }
    Model m = new Model();
    m.corners = moved;
    if (!m.simpleAndLeft()) return null;
    for (int i = 0; i < m.n(); i++) if (Math.abs(m.rawLength(i) - m.length(i)) > 1e-9) return null;
    return moved;
  }

  static final List<List<int[]>> cakes = new ArrayList<>();

  static void fillCakes(Random r) {
    int[] many = new int[9];
    for (int i = 0; i < 3000000 && cakes.size() < 600; i++) {
      List<int[]> c = cake(r);
      if (c == null || many[c.size()] >= 100) continue;
      many[c.size()]++;
      cakes.add(c);
    }
  }

  static String text(Random r) {
    StringBuilder s = new StringBuilder();
    Model m = new Model();
    List<String> lines = new ArrayList<>();
    if (r.nextInt(6) != 0) m.corners = cakes.get(r.nextInt(cakes.size()));
    if (r.nextInt(6) != 0 || m.n() != 4) for (int[] c : m.corners) lines.add("corner " + c[0] + " " + c[1] + ";");
    List<int[]> in = new ArrayList<>();
    for (int x = 0; x <= 12; x++) for (int y = 0; y <= 12; y++) if (m.inside(x, y)) in.add(new int[] {x, y});
    if (!in.isEmpty()) {
      if (!m.inside(3, 3) || r.nextInt(3) == 0) { int[] p = in.get(r.nextInt(in.size())); lines.add("middle " + p[0] + " " + p[1] + ";"); }
      for (int i = r.nextInt(9); i > 0 && lines.size() < 20; i--) {
        int[] p = in.get(r.nextInt(in.size()));
        lines.add(any(r, 0, lines.size()), "cherry " + p[0] + " " + p[1] + ";");
      }
    }
    for (int i = r.nextInt(7); i > 0; i--) lines.add(any(r, 0, lines.size()), "one " + any(r, 1, r.nextInt(2) == 0 ? 1 : 9) + ";");
    if (r.nextInt(2) == 0) lines.add("begin " + any(r, 0, m.rim() - 1) + " ;");
    if (r.nextInt(2) == 0) lines.add("gone" + (r.nextInt(3) == 0 ? "" : " ") + any(r, 0, Math.min(99, m.rim() - 1)) + ";");
    for (String l : lines) s.append(l).append(r.nextInt(8) == 0 ? "  " : "");
    if (r.nextInt(3) == 0) {
      String signs = " ;0123456789cornermiddlebegingonecherryA\n\0:`{/@";
      for (int i = any(r, 1, 2); i > 0 && s.length() > 0; i--) {
        int at = r.nextInt(s.length());
        switch (r.nextInt(4)) {
          case 0 -> s.setCharAt(at, signs.charAt(r.nextInt(signs.length())));
          case 1 -> s.deleteCharAt(at);
          case 2 -> s.insert(at, signs.charAt(r.nextInt(signs.length())));
          default -> { String l = lines.get(r.nextInt(lines.size())); s.append(l); }
        }
      }
    }
    return s.toString();
  }

  static void tell(CrustCrumb x, Model m, Random r, String text) {
    for (int i = 0; i < text.length(); i += 8) {
      long v = 0;
      for (int k = 0; k < 8; k++) v = v << 8 | (i + k < text.length() ? text.charAt(i + k) : r.nextInt(256)) & 255;
      feed(x, m, v);
    }
    if (text.length() <= m.tape.length()) end(x, m, text.length());
    due("text() of " + m.tape, x.text(), m.text());
    due("fault()", x.fault(), m.fault);
  }

  static void feed(CrustCrumb x, Model m, long v) {
    int want = -3;
    if (m.tape.length() + 8 <= 320) {
      StringBuilder s = new StringBuilder(m.tape);
      for (int k = 56; k >= 0; k -= 8) s.append((char) (v >> k & 255));
      m.tape = s.toString();
      want = m.tape.length();
    }
    due("feed(" + v + ")", x.feed(v), want);
  }

  static void end(CrustCrumb x, Model m, int n) {
    int want = is(n, 0, m.tape.length()) ? m.tape.length() : -1;
    if (want >= 0) m.tape = m.tape.substring(0, n);
    due("end(" + n + ")", x.end(n), want);
  }

  /** One call picked by chance. */
  static void one(CrustCrumb x, Model m, Random r) {
    int p = odd(r, 0, Math.max(0, m.shares.size() - 1)), what = odd(r, 0, 1), three = odd(r, 0, 2);
    boolean isOne = is(p, 0, m.shares.size() - 1), isPart = is(what, 0, 1);
    int i = odd(r, 0, m.n() - 1), b = odd(r, 0, m.rim() - 1), px = odd(r, 0, 12), py = odd(r, 0, 12);
    if (r.nextInt(2) == 0) { px = odd(r, m.mx - 1, m.mx + 1); py = odd(r, m.my - 1, m.my + 1); }
    String ps = "(" + p + ", " + what + ")";
    switch (r.nextInt(43)) {
      case 0 -> tell(x, m, r, r.nextInt(3) == 0 ? text(r) : "one 1; one");
      case 1 -> { feed(x, m, r.nextLong()); if (r.nextInt(2) == 0) end(x, m, odd(r, 0, m.tape.length())); }
      case 2 -> due("fault()", x.fault(), m.fault);
      case 3 -> {
        int w = odd(r, 0, 7);
        int[] all = {m.n(), m.rim(), m.area(), 100 * m.mx + m.my, m.begin, m.gone, m.shares.size(), m.cherries.size()};
        due("rule(" + w + ")", x.rule(w), is(w, 0, 7) ? all[w] : -1);
      }
      case 4 -> {
        int w = odd(r, 0, 3);
        long want = !is(i, 0, m.n() - 1) || !is(w, 0, 3) ? -1 : w == 0 ? m.c(i)[0] : w == 1 ? m.c(i)[1] : w == 2 ? m.length(i) : m.start(i);
        due("corner(" + i + ", " + w + ")", x.corner(i, w), want);
      }
      case 5 -> due("share(" + p + ")", x.share(p), isOne ? m.shares.get(p) : -1);
      case 6 -> {
        int want = m.inside(px, py) ? 100 * m.mx + m.my : -1;
        if (want >= 0) { m.mx = px; m.my = py; }
        due("move(" + px + ", " + py + ")", x.move(px, py), want);
      }
      case 7 -> {
        int want = is(b, 0, m.rim() - 1) ? m.begin : -1;
        if (want >= 0) m.begin = b;
        due("turn(" + b + ")", x.turn(b), want);
      }
      case 8 -> {
        int g = r.nextInt(2) == 0 ? b : odd(r, 0, 3);
        int want = is(g, 0, m.rim() - 1) ? m.gone : -1;
        if (want >= 0) m.gone = g;
        due("eat(" + g + ")", x.eat(g), want);
      }
      case 9 -> {
        int v = odd(r, 1, 9);
        int want = isOne && is(v, 1, 9) ? m.shares.set(p, v) : -1;
        due("give(" + p + ", " + v + ")", x.give(p, v), want);
      }
      case 10 -> {
        int v = odd(r, 1, r.nextInt(2) == 0 ? 9 : 1);
        int want = !is(v, 1, 9) ? -1 : m.shares.size() == 6 ? -3 : m.shares.size() + 1;
        if (want >= 0) m.shares.add(v);
        due("join(" + v + ")", x.join(v), want);
      }
      case 11 -> {
        int want = !m.inside(px, py) ? -1 : m.cherries.size() == 8 ? -3 : m.cherries.size() + 1;
        if (want >= 0) m.cherries.add(new int[] {px, py});
        due("put(" + px + ", " + py + ")", x.put(px, py), want);
      }
      case 12 -> due("place" + ps, x.place(p, what), isOne && isPart ? m.place(p, m.begin, m.gone, m.shares).part(what) : -1);
      case 13 -> due("crumb" + ps, x.crumb(p, what), isOne && isPart ? m.crumbOf(p, m.mx, m.my, m.begin, m.gone, m.shares).part(what) : -1);
      case 14 -> due("crust" + ps, x.crust(p, what), isOne && isPart
          ? m.place(p + 1, m.begin, m.gone, m.shares).minus(m.place(p, m.begin, m.gone, m.shares)).part(what) : -1);
      case 15 -> due("due" + ps, x.due(p, what), isOne && isPart ? m.dueOf(p, m.mx, m.my, m.begin, m.gone, m.shares).part(what) : -1);
      case 16 -> {
        int a = odd(r, 0, 99), f = odd(r, 0, 99);
        long want = -1;
        if (isOne && isPart && is(a, 0, 99) && is(f, 0, 99)) {
          Q crust = m.place(p + 1, m.begin, m.gone, m.shares).minus(m.place(p, m.begin, m.gone, m.shares));
          want = m.crumbOf(p, m.mx, m.my, m.begin, m.gone, m.shares).times(Q.of(a)).plus(crust.times(Q.of(f))).part(what);
        }
        due("work(" + p + ", " + a + ", " + f + ", " + what + ")", x.work(p, a, f, what), want);
      }
      case 17 -> {
        int want = isPart ? -4 : -1;
        for (int k = 0; isPart && want == -4 && k < m.shares.size(); k++) {
          int more = m.crumbOf(k, m.mx, m.my, m.begin, m.gone, m.shares).compare(m.dueOf(k, m.mx, m.my, m.begin, m.gone, m.shares));
          if (more != 0) want = what == 0 ? k : more > 0 ? 1 : 0;
        }
        due("judge(" + what + ")", x.judge(what), want);
      }
      case 18 -> due("off(" + what + ")", x.off(what), !isPart ? -1 : m.shares.isEmpty() ? -2
          : m.off(m.mx, m.my, m.begin, m.gone, m.shares).part(what));
      case 19 -> due("far(" + i + ", " + what + ")", x.far(i, what), !isPart || !is(i, 0, m.n() - 1) ? -1
          : Q.of(Model.side(m.c(i), m.c(i + 1), m.mx, m.my), m.length(i)).part(what));
      case 20 -> due("round(" + px + ", " + py + ")", x.round(px, py), !is(px, 0, 12) || !is(py, 0, 12) ? -1 : m.fits(px, py) ? 1 : 0);
      case 21 -> {
        int many = 0, first = -4;
        for (int a = 12; a >= 0; a--) for (int c = 12; c >= 0; c--) if (m.fits(a, c)) { many++; first = 100 * a + c; }
        due("rounds(" + what + ")", x.rounds(what), !isPart ? -1 : what == 0 ? many : first);
      }
      case 22 -> {
        Q least = null;
        int at = 0;
        for (int a = 0; a < m.rim() && !m.shares.isEmpty(); a++) {
          Q o = m.off(m.mx, m.my, a, m.gone, m.shares);
          if (least == null || o.compare(least) < 0) { least = o; at = a; }
        }
        due("best(" + three + ")", x.best(three), !is(three, 0, 2) ? -1 : least == null ? -2 : three == 0 ? at : least.part(three - 1));
      }
      case 23 -> {
        Q least = null;
        int at = 0;
        for (int a = 0; a <= 12; a++) for (int c = 0; c <= 12; c++) if (!m.shares.isEmpty() && m.inside(a, c)) {
          Q o = m.off(a, c, m.begin, m.gone, m.shares);
          if (least == null || o.compare(least) < 0) { least = o; at = 100 * a + c; }
        }
        due("centre(" + three + ")", x.centre(three), !is(three, 0, 2) ? -1 : least == null ? -2 : three == 0 ? at : least.part(three - 1));
      }
      case 24 -> {
        int n = odd(r, 1, 9), many = is(n, 1, 9) ? 0 : -1;
        List<Integer> like = new ArrayList<>();
        for (int k = 0; many == 0 && k < n; k++) like.add(1);
        for (int a = 0; !like.isEmpty() && a < m.rim(); a++) if (m.off(m.mx, m.my, a, 0, like).sign() == 0) many++;
        due("alike(" + n + ")", x.alike(n), many);
      }
      case 25 -> due("cherries(" + p + ")", x.cherries(p), isOne ? m.many(p, m.begin) : -1);
      case 26 -> due("cut()", x.cut(), m.many(-1, m.begin));
      case 27 -> {
        int fewest = 9, at = 0;
        for (int a = 0; a < m.rim(); a++) { int many = m.many(-1, a); if (many < fewest) { fewest = many; at = a; } }
        due("gentle(" + what + ")", x.gentle(what), !isPart ? -1 : what == 0 ? at : fewest);
      }
      case 28, 29 -> {
        int last = m.marks.isEmpty() ? 0 : m.marks.get(m.marks.size() - 1);
        int a = r.nextInt(3) == 0 ? b : odd(r, last, last + 6);
        due("mark(" + a + ")", x.mark(a), m.mark(a));
      }
      case 30 -> {
        int n = odd(r, 0, m.marks.size());
        int want = is(n, 0, m.marks.size()) ? m.marks.size() : -1;
        if (want >= 0) m.marks = new ArrayList<>(m.marks.subList(0, n));
        due("wipe(" + n + ")", x.wipe(n), want);
      }
      case 31 -> {
        int k = m.shares.size() - m.marks.size();
        if (k < 0) { due("wipe(" + m.shares.size() + ")", x.wipe(m.shares.size()), m.marks.size()); m.marks = new ArrayList<>(m.marks.subList(0, m.shares.size())); }
        for (int a = 0; k > 0 && a < k; a++) {
          int at = m.marks.isEmpty() ? r.nextInt(3) : m.marks.get(m.marks.size() - 1) + any(r, 1, m.rim() / m.shares.size());
          due("mark(" + at + ")", x.mark(at), m.mark(at));
        }
        int want = !isPart ? -1 : m.shares.isEmpty() || m.marks.size() != m.shares.size() ? -2 : -4;
        for (int a = 0; want == -4 && a < m.shares.size(); a++) {
          Q to = Q.of(a + 1 < m.marks.size() ? m.marks.get(a + 1) : m.marks.get(0) + m.rim());
          int more = m.crumb(m.mx, m.my, Q.of(m.marks.get(a)), to).compare(Q.of((long) m.area() * m.shares.get(a), Model.sum(m.shares)));
          if (more != 0) want = what == 0 ? a : more > 0 ? 1 : 0;
        }
        due("told(" + what + ")", x.told(what), want);
      }
      case 32 -> {
        boolean lies = isOne && is(i, 0, m.n() - 1) && r.nextInt(3) != 0 ? m.lies(i, p, m.begin) : r.nextBoolean();
        int want = !isOne || !is(i, 0, m.n() - 1) ? -1 : m.sights.size() == 8 ? -3 : m.sights.size() + 1;
        if (want >= 0) m.sights.add(new Sight(i, p, lies));
        due("see(" + i + ", " + p + ", " + lies + ")", x.see(i, p, lies), want);
      }
      case 33 -> {
        int n = odd(r, 0, m.sights.size());
        int want = is(n, 0, m.sights.size()) ? m.sights.size() : -1;
        if (want >= 0) m.sights = new ArrayList<>(m.sights.subList(0, n));
        due("forget(" + n + ")", x.forget(n), want);
      }
      case 34 -> {
        int many = 0, first = -4, last = -4;
        for (int a = 0; a < m.rim(); a++) if (m.allSeen(a)) { if (many == 0) first = a; last = a; many++; }
        due("begins(" + three + ")", x.begins(three), !is(three, 0, 2) ? -1 : three == 0 ? many : three == 1 ? first : last);
      }
      case 35 -> {
        int want = !is(what, 0, 1) ? -1 : m.images[what] == null ? 0 : 1;
        if (want >= 0) m.images[what] = m.image();
        due("keep(" + what + ")", x.keep(what), want);
      }
      case 36 -> {
        int want = !is(what, 0, 1) ? -1 : m.images[what] == null ? -2 : m.images[what].shares.size();
        if (want >= 0) m.become(m.images[what]);
        due("back(" + what + ")", x.back(what), want);
      }
      case 37 -> {
        int k = odd(r, 0, 3), n = odd(r, 0, r.nextBoolean() ? 40 : 8);
        due("sheet(" + k + ", " + three + ", " + n + ")", x.sheet(k, three, n), m.sheet(k, three, n));
      }
      case 38, 39 -> {
        int k = odd(r, 0, 3), c = odd(r, 0, 8), v = r.nextInt(3) == 0 ? r.nextInt() : c * 4 + r.nextInt(4) + (r.nextInt(3) << 8 * r.nextInt(3));
        due("lay(" + k + ", " + c + ", " + v + ")", x.lay(k, c, v), m.lay(k, c, v));
      }
      case 40, 41 -> {
        int k = odd(r, 0, 3), f = odd(r, 0, 8), n = odd(r, 0, 6);
        int l = m.sheets[k & 3] instanceof short[] ? 1 : m.sheets[k & 3] instanceof int[] ? 2 : 0;
        if (r.nextInt(3) == 0) l = three;
        due("read(" + k + ", " + l + ", " + f + ", " + n + ")", x.read(k, l, f, n), m.read(k, l, f, n));
        due("torn()", x.torn(), m.torn);
      }
      default -> {
        int w = odd(r, 0, 5), images = (m.images[0] == null ? 0 : 1) + (m.images[1] == null ? 0 : 1);
        Object s = m.sheets[0];
        int cells = s instanceof byte[] a ? a.length : s instanceof short[] c ? c.length : s instanceof int[] d ? d.length : -4;
        int[] all = {m.marks.size(), m.sights.size(), images, m.tape.length(), cells, Model.sum(m.shares)};
        due("count(" + w + ")", x.count(w), is(w, 0, 5) ? all[w] : -1);
      }
    }
  }

  public static void main(String[] args) {
    int runs = args.length > 0 ? Integer.parseInt(args[0]) : 400;
    long seed = args.length > 1 ? Long.parseLong(args[1]) : 1;
    fillCakes(new Random(seed));
    for (int i = 0; i < runs; i++) {
      Random r = new Random(seed * 1000003 + i);
      run.setLength(0);
      run.append("-- run ").append(i).append('\n');
      CrustCrumb x = new CrustCrumb();
      Model m = new Model();
      if (i % 8 != 0) tell(x, m, r, text(r));
      for (int k = 0; k < 200; k++) one(x, m, r);
    }
    int[] sizes = new int[9];
    for (List<int[]> c : cakes) sizes[c.size()]++;
    System.out.println(runs + " runs on " + cakes.size() + " cakes " + java.util.Arrays.toString(sizes) + ", " + wrong + " answers not as due");
    if (wrong != 0) System.exit(1);
  }
}
