import java.util.ArrayList;
import java.util.List;

/**
 * Where each CHERRY lies, by walking round the RIM in steps of 1 by the sum of SHARES: all CUTS go to the ends of steps,
 * and each step is less than half a turn, so that two looks to the left tell the step a CHERRY lies in.
 */
public final class CherriesTest extends Asked {
  private static final String[] CAKES = {"", THREE, EIGHT, "corner 3 0;corner 7 3;corner 4 7;corner 0 4;",
      "corner 3 0;corner 4 0;corner 4 5;corner 0 5;corner 0 4;middle 1 4;", "corner 0 0;corner 12 0;corner 12 5;middle 10 2;",
      "corner 12 0;corner 12 12;corner 7 12;corner 3 9;corner 0 5;middle 9 7;"};
  private static final int[][] SHARES = {{}, {1}, {1, 1}, {2, 1}, {1, 2, 4}, {3, 1, 1, 2}, {1, 9, 1, 9, 1, 9}, {1, 1, 1, 1, 1, 1}};

  private record Way(int rim, int[] xs, int[] ys, int[] starts, int[] lengths) {
    static Way of(CrustCrumb x) {
      int n = x.rule(0);
      int[][] rows = new int[4][n];
      for (int i = 0; i < n; i++) for (int w = 0; w < 4; w++) rows[w][i] = x.corner(i, w);
      return new Way(x.rule(1), rows[0], rows[1], rows[3], rows[2]);
    }

    /** From the MIDDLE to the end of a step, made longer by the steps of 1 and the LENGTH. */
    long[] to(int step, int steps, int mx, int my) {
      int at = step % (rim * steps), i = xs.length - 1;
      while (starts[i] * steps > at) i--;
      int j = (i + 1) % xs.length, all = lengths[i] * steps, along = at - starts[i] * steps;
      return new long[] {(long) (xs[i] - mx) * all + (long) (xs[j] - xs[i]) * along, (long) (ys[i] - my) * all + (long) (ys[j] - ys[i]) * along};
    }
  }

  private static long left(long[] a, long dx, long dy) {
    return a[0] * dy - a[1] * dx;
  }

  /** Twice the step that a CHERRY lies in, and 1 more if not straight at its beginning; -1 in the MIDDLE. */
  private static int stepOf(Way way, int steps, int mx, int my, int cx, int cy) {
    if (cx == mx && cy == my) return -1;
    for (int s = 0; s < way.rim * steps; s++) {
      long from = left(way.to(s, steps, mx, my), cx - mx, cy - my), to = left(way.to(s + 1, steps, mx, my), cx - mx, cy - my);
      if (from >= 0 && to < 0) return 2 * s + (from == 0 ? 0 : 1);
    }
    throw new IllegalStateException("no step for " + cx + " " + cy);
  }

  /** For each ONE his CHERRIES; behind them those that are CUT. */
  private static int[] parted(int[] found, int rim, int steps, int begin, int gone, int[] shares) {
    int n = shares.length, round = rim * steps;
    int[] many = new int[n + 1];
    for (int step : found) {
      if (step < 0) {
        many[n]++;
        continue;
      }
      // from BEGIN on, twice over: those at 0 lie on the CUT at BEGIN
      int at = Math.floorMod(step - 2 * begin * steps, 2 * round), place = 2 * gone * steps, one = -1;
      boolean cut = at == 0 || at == place;
      for (int p = 0; p < n; p++) {
        cut |= at == place;
        one = at > place ? p : one;
        place += 2 * (rim - gone) * shares[p];
      }
      if (cut) many[n]++;
      else if (one >= 0) many[one]++;
    }
    return many;
  }

  private static List<int[]> inside(String text) {
    List<int[]> points = new ArrayList<>();
    for (int x = 1; x < 12; x++) for (int y = 1; y < 12; y++) if (cake(text).put(x, y) == 1) points.add(new int[] {x, y});
    return points;
  }

  private static void ask(String text, Way way, int[] middle, List<int[]> cherries, int[] shares, int gone) {
    int steps = 0;
    CrustCrumb x = cake(text);
    for (int s : shares) {
      x.join(s);
      steps += s;
    }
    steps = Math.max(1, steps);
    x.move(middle[0], middle[1]);
    x.eat(gone);
    int[] found = new int[cherries.size()];
    for (int i = 0; i < found.length; i++) {
      int[] c = cherries.get(i);
      x.put(c[0], c[1]);
      found[i] = stepOf(way, steps, middle[0], middle[1], c[0], c[1]);
    }
    int fewest = 99, gentle = -1;
    for (int b = 0; b < way.rim; b++) {
      x.turn(b);
      int[] want = parted(found, way.rim, steps, b, gone, shares);
      String what = " from " + middle[0] + " " + middle[1] + ", BEGIN " + b + ", GONE " + gone + ", of " + shares.length + ", " + text;
      due("cut()" + what, x.cut(), want[shares.length]);
      for (int p = 0; p < shares.length; p++) due("cherries(" + p + ")" + what, x.cherries(p), want[p]);
      if (want[shares.length] < fewest) {
        fewest = want[shares.length];
        gentle = b;
      }
    }
    due("gentle(0) of " + text, x.gentle(0), gentle);
    due("gentle(1) of " + text, x.gentle(1), fewest);
  }

  public static void main(String[] args) {
    sentence("A CHERRY is CUT, if it lies in the MIDDLE, or straight on a CUT (..); else it lies in a PIECE, or in what is gone");
    int turn = 0;
    for (String text : CAKES) {
      Way way = Way.of(cake(text));
      List<int[]> points = inside(text);
      for (int m = 0; m < points.size(); m += 1 + points.size() / 12) {
        for (int[] shares : SHARES) {
          List<int[]> cherries = new ArrayList<>();
          for (int i = 0; i < 8; i++) cherries.add(points.get((turn + i * 7) % points.size()));
          ask(text, way, points.get(m), cherries, shares, turn * 5 % way.rim);
          ask(text, way, points.get(m), cherries, shares, 0);
          turn++;
        }
      }
    }
    tellAll();
  }
}
