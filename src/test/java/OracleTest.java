import java.util.ArrayList;
import java.util.List;

// Long runs of calls on many hills, each answer compared with that of slow and plain models that
// share nothing with the program: one writes down every body of a small hill, the other narrows
// the depths of a hill of any size until nothing moves, for each heap of sights anew.
public final class OracleTest {
  private static final int NO = -2147483648;
  private static final int MOST_BODIES = 60_000;
  private static int wrong = 0;
  private static long asked = 0;

  /** A fixed row of numbers, the same in each run. */
  private static final class Row {
    private long state;
    Row(long seed) { state = seed * 2862933555777941757L + 3037000493L; }
    int upTo(int most) { return from(0, most); }
    int from(int least, int most) {
      state = state * 6364136223846793005L + 1442695040888963407L;
      return least + (int) ((state >>> 33) % (most - least + 1));
    }
    boolean one(int in) { return upTo(in - 1) == 0; }
  }

  /** What the document says is told, kept as it is told. */
  private static final class Told {
    final int w, s;
    final int[] from, to, steep, ground;
    final Integer[] thrown;
    final List<int[]> sights = new ArrayList<>();
    final List<Boolean> there = new ArrayList<>();

    Told(int w, int s) {
      this.w = w < 2 ? 2 : w > 8 ? 8 : w;
      this.s = s < 1 ? 1 : s > 4 ? 4 : s;
      from = new int[this.s];
      to = new int[this.s];
      steep = new int[this.s];
      ground = new int[this.w];
      thrown = new Integer[this.w];
      for (int k = 0; k < this.s; k++) { from[k] = 1; to[k] = 60; steep[k] = 5; }
    }
    boolean surface(int k) { return k >= 0 && k < s; }
    boolean column(int x) { return x >= 0 && x < w; }
    static boolean depth(int d) { return d >= 0 && d <= 60; }

    boolean thick(int k, int a, int b) {
      if (k < 0 || k > s - 2 || !depth(a) || !depth(b) || a > b) return false;
      from[k] = a;
      to[k] = b;
      return true;
    }
    boolean steep(int k, int most) {
      if (!surface(k) || !depth(most)) return false;
      steep[k] = most;
      return true;
    }
    boolean fault(int x, int t) {
      if (x < 0 || x > w - 2 || t < -30 || t > 30) return false;
      thrown[x] = t;
      return true;
    }
    boolean heal(int x) {
      if (!column(x) || thrown[x] == null) return false;
      thrown[x] = null;
      return true;
    }
    boolean ground(int x, int d) {
      if (!column(x) || !depth(d)) return false;
      ground[x] = d;
      return true;
    }
    int sight(int where, int z, int miss) {
      if (where < 0 || z < -60 || z > 60 || !depth(miss) || sights.size() == 10) return -1;
      int k = where / 100, x = where % 100 / 10, kind = where % 10;
      if (!surface(k) || !column(x) || kind > 3 || kind == 3 && !column(x + 1)) return -1;
      sights.add(new int[] {k, x, kind, z, miss});
      there.add(true);
      return sights.size() - 1;
    }
    boolean isThere(int i) { return i >= 0 && i < sights.size() && there.get(i); }
    boolean take(int i) {
      if (!isThere(i)) return false;
      there.set(i, false);
      return true;
    }
    int allSights() {
      int all = 0;
      for (int i = 0; i < sights.size(); i++) if (there.get(i)) all |= 1 << i;
      return all;
    }
    int faults() {
      int n = 0;
      for (Integer t : thrown) if (t != null) n++;
      return n;
    }
    int throwAt(int x) { return thrown[x] == null ? 0 : thrown[x]; }
  }

  /** What a model knows of all bodies that agree. Places are surface * w + column. */
  private interface Model {
    int quarrel();
    int least(int place);
    int greatest(int place);
    int deeper(int one, int other, boolean most);
    int openAfter(int place, int depth);
    int layer(int x, int depth);
    int worn(int k, int x);
  }

  /** Every body of a small hill, written down. */
  private static final class Written implements Model {
    final Told told;
    final List<int[]> bodies = new ArrayList<>();
    final List<Integer> broken = new ArrayList<>();
    final int[] body;
    boolean tooMany = false;
    int quarrel = -1;
    List<int[]> agree = new ArrayList<>();

    Written(Told told) {
      this.told = told;
      body = new int[told.w * told.s];
      write(0);
      if (tooMany) return;
      for (int[] b : bodies) {
        int out = 0;
        for (int i = 0; i < told.sights.size(); i++) if (told.isThere(i) && !sees(told.sights.get(i), b)) out |= 1 << i;
        broken.add(out);
        if (quarrel < 0 || Integer.bitCount(out) < Integer.bitCount(quarrel)
            || Integer.bitCount(out) == Integer.bitCount(quarrel) && out < quarrel) quarrel = out;
      }
      for (int i = 0; i < bodies.size(); i++) if ((broken.get(i) & ~quarrel) == 0) agree.add(bodies.get(i));
    }
    void write(int place) {
      if (tooMany) return;
      if (place == body.length) {
        bodies.add(body.clone());
        tooMany = bodies.size() > MOST_BODIES;
        return;
      }
      int k = place / told.w, x = place % told.w;
      for (int d = 0; d <= 60; d++) {
        if (k > 0) {
          int thick = d - body[place - told.w];
          if (thick < told.from[k - 1] || thick > told.to[k - 1]) continue;
        }
        if (x > 0 && Math.abs(d - body[place - 1] - told.throwAt(x - 1)) > told.steep[k]) continue;
        body[place] = d;
        write(place + 1);
      }
    }
    boolean sees(int[] sight, int[] b) {
      int d = b[sight[0] * told.w + sight[1]];
      if (sight[2] == 1) return d >= sight[3];
      if (sight[2] == 2) return d <= sight[3];
      if (sight[2] == 3) d = b[sight[0] * told.w + sight[1] + 1] - d;
      return Math.abs(d - sight[3]) <= sight[4];
    }
    public int quarrel() { return quarrel; }
    public int least(int place) {
      int least = 99;
      for (int[] b : agree) least = Math.min(least, b[place]);
      return least;
    }
    public int greatest(int place) {
      int greatest = -1;
      for (int[] b : agree) greatest = Math.max(greatest, b[place]);
      return greatest;
    }
    public int deeper(int one, int other, boolean most) {
      int best = most ? -99 : 99;
      for (int[] b : agree) {
        int d = b[other] - b[one];
        best = most ? Math.max(best, d) : Math.min(best, d);
      }
      return best;
    }
    public int openAfter(int place, int depth) {
      int n = body.length;
      int[] least = new int[n], greatest = new int[n];
      java.util.Arrays.fill(least, 99);
      java.util.Arrays.fill(greatest, -1);
      for (int[] b : agree) {
        if (b[place] != depth) continue;
        for (int p = 0; p < n; p++) {
          least[p] = Math.min(least[p], b[p]);
          greatest[p] = Math.max(greatest[p], b[p]);
        }
      }
      int sum = 0;
      for (int p = 0; p < n; p++) {
        if (greatest[p] < 0) return -1;
        sum += greatest[p] - least[p];
      }
      return sum;
    }
    public int layer(int x, int depth) {
      int layer = -2;
      for (int[] b : agree) {
        int above = 0;
        for (int k = 0; k < told.s; k++) if (b[k * told.w + x] <= depth) above++;
        if (layer != -2 && layer != above) return -1;
        layer = above;
      }
      return layer;
    }
    public int worn(int k, int x) {
      int some = 0;
      for (int[] b : agree) if (b[k * told.w + x] < told.ground[x]) some++;
      return some == agree.size() ? 2 : some > 0 ? 1 : 0;
    }
  }

  /** Least and greatest depths narrowed by one rule after the other until none moves. */
  private static final class Narrowed implements Model {
    final Told told;
    final List<int[]> rules = new ArrayList<>();
    int[] least, greatest;
    int quarrel = -1;

    Narrowed(Told told) {
      this.told = told;
      int all = told.allSights();
      for (int size = 0; size <= Integer.bitCount(all) && quarrel < 0; size++) {
        for (int out = 0; out <= all && quarrel < 0; out++) {
          if (Integer.bitCount(out) != size || (out & ~all) != 0) continue;
          makeRules(all & ~out);
          if (narrow(-1, 0)) quarrel = out;
        }
      }
    }
    /** A rule: the depth at b less that at a (or less 0, if a is -1) is from .. to. */
    void makeRules(int kept) {
      rules.clear();
      for (int k = 0; k < told.s; k++) {
        for (int x = 0; x < told.w; x++) {
          int p = k * told.w + x;
          if (k + 1 < told.s) rules.add(new int[] {p, p + told.w, told.from[k], told.to[k]});
          if (x + 1 < told.w) {
            rules.add(new int[] {p, p + 1, told.throwAt(x) - told.steep[k], told.throwAt(x) + told.steep[k]});
          }
        }
      }
      for (int i = 0; i < told.sights.size(); i++) {
        if ((kept >> i & 1) == 0) continue;
        int[] t = told.sights.get(i);
        int p = t[0] * told.w + t[1];
        if (t[2] == 0) rules.add(new int[] {-1, p, t[3] - t[4], t[3] + t[4]});
        if (t[2] == 1) rules.add(new int[] {-1, p, t[3], 999});
        if (t[2] == 2) rules.add(new int[] {-1, p, -999, t[3]});
        if (t[2] == 3) rules.add(new int[] {p, p + 1, t[3] - t[4], t[3] + t[4]});
      }
    }
    boolean narrow(int place, int depth) {
      int n = told.w * told.s;
      least = new int[n];
      greatest = new int[n];
      java.util.Arrays.fill(greatest, 60);
      if (place >= 0) { least[place] = depth; greatest[place] = depth; }
      boolean moves = true;
      while (moves) {
        moves = false;
        for (int[] r : rules) {
          int a = r[0], b = r[1];
          moves |= raise(b, (a < 0 ? 0 : least[a]) + r[2]);
          moves |= sink(b, (a < 0 ? 0 : greatest[a]) + r[3]);
          if (a >= 0) {
            moves |= raise(a, least[b] - r[3]);
            moves |= sink(a, greatest[b] - r[2]);
            if (least[a] > greatest[a]) return false;
          }
          if (least[b] > greatest[b]) return false;
        }
      }
      return true;
    }
    boolean raise(int p, int d) {
      if (d <= least[p]) return false;
      least[p] = d;
      return true;
    }
    boolean sink(int p, int d) {
      if (d >= greatest[p]) return false;
      greatest[p] = d;
      return true;
    }
    public int quarrel() { return quarrel; }
    public int least(int place) { narrow(-1, 0); return least[place]; }
    public int greatest(int place) { narrow(-1, 0); return greatest[place]; }
    public int deeper(int one, int other, boolean most) {
      int best = most ? -99 : 99;
      for (int d = 0; d <= 60; d++) {
        if (!narrow(one, d)) continue;
        best = most ? Math.max(best, greatest[other] - d) : Math.min(best, least[other] - d);
      }
      return best;
    }
    public int openAfter(int place, int depth) {
      if (!narrow(place, depth)) return -1;
      int sum = 0;
      for (int p = 0; p < least.length; p++) sum += greatest[p] - least[p];
      return sum;
    }
    public int layer(int x, int depth) {
      narrow(-1, 0);
      int few = 0, many = 0;
      for (int k = 0; k < told.s; k++) {
        if (greatest[k * told.w + x] <= depth) few++;
        if (least[k * told.w + x] <= depth) many++;
      }
      return few == many ? few : -1;
    }
    public int worn(int k, int x) {
      narrow(-1, 0);
      int p = k * told.w + x;
      return greatest[p] < told.ground[x] ? 2 : least[p] < told.ground[x] ? 1 : 0;
    }
  }

  private static int openOf(Told t, Model m) {
    int sum = 0;
    for (int p = 0; p < t.w * t.s; p++) sum += m.greatest(p) - m.least(p);
    return sum;
  }
  private static int tellsOf(Told t, Model m, int open, int place) {
    int most = -1;
    for (int d = m.least(place); d <= m.greatest(place); d++) most = Math.max(most, m.openAfter(place, d));
    return open - most;
  }
  private static int bendOf(Told t, Model m, boolean lowest) {
    int sum = 0;
    for (int k = 0; k < t.s; k++) {
      for (int x = 1; x < t.w - 1; x++) {
        int p = k * t.w + x;
        int[] d = new int[3];
        for (int i = 0; i < 3; i++) d[i] = lowest ? m.greatest(p + i - 1) : m.least(p + i - 1);
        sum += Math.abs(2 * d[1] - d[0] - d[2]);
      }
    }
    return sum;
  }

  private static String run;
  private static StringBuilder calls = new StringBuilder();
  private static void due(String call, int got, int want) {
    asked++;
    if (got == want) return;
    wrong++;
    if (wrong < 20) System.out.println(run + calls + " " + call + " answered " + got + ", due is " + want);
  }
  private static void did(String call, boolean got, boolean want) {
    due(call, got ? 1 : 0, want ? 1 : 0);
    calls.append(' ').append(call);
  }

  /** Compares all that can be asked; of the dear answers only some, if told so. */
  private static void compare(HillLayers x, Told t, Model m, Row row, boolean all) {
    int quarrel = m.quarrel();
    boolean hill = quarrel >= 0;
    due("quarrel()", x.quarrel(), quarrel);
    int open = hill ? openOf(t, m) : -1;
    due("open()", x.open(), open);
    int best = -1, bestTells = -1;
    for (int k = 0; k < t.s; k++) {
      for (int c = 0; c < t.w; c++) {
        int p = k * t.w + c;
        due("span(" + k + ", " + c + ", 0)", x.span(k, c, 0), hill ? m.least(p) : -1);
        due("span(" + k + ", " + c + ", 1)", x.span(k, c, 1), hill ? m.greatest(p) : -1);
        due("worn(" + k + ", " + c + ")", x.worn(k, c), hill ? m.worn(k, c) : -1);
        if (all || row.one(20)) {
          int tells = hill ? tellsOf(t, m, open, p) : -1;
          due("tells(" + k + ", " + c + ")", x.tells(k, c), tells);
          if (tells > bestTells) { bestTells = tells; best = k * 10 + c; }
        }
      }
    }
    if (all) due("next()", x.next(), best);
    for (int i = 0; i < (all ? 20 : 4); i++) {
      int k = row.upTo(t.s - 1), c = row.upTo(t.w - 1), l = row.upTo(t.s - 1), e = row.upTo(t.w - 1);
      int one = k * 10 + c, other = l * 10 + e;
      due("between(" + one + ", " + other + ", 0)", x.between(one, other, 0), hill ? m.deeper(k * t.w + c, l * t.w + e, false) : NO);
      due("between(" + one + ", " + other + ", 1)", x.between(one, other, 1), hill ? m.deeper(k * t.w + c, l * t.w + e, true) : NO);
      int d = row.upTo(60);
      due("layer(" + c + ", " + d + ")", x.layer(c, d), hill ? m.layer(c, d) : -1);
    }
    due("bend(0)", x.bend(0), hill ? bendOf(t, m, false) : -1);
    due("bend(1)", x.bend(1), hill ? bendOf(t, m, true) : -1);
    due("count(2)", x.count(2), Integer.bitCount(t.allSights()));
    due("count(3)", x.count(3), t.faults());
    for (int i = -1; i <= 10; i++) {
      for (int what = 0; what < 5; what++) due("told(" + i + ", " + what + ")", x.told(i, what), t.isThere(i) ? t.sights.get(i)[what] : NO);
      due("told(" + i + ", 5)", x.told(i, 5), t.isThere(i) && hill ? quarrel >> i & 1 : NO);
    }
  }

  /** A sight, mostly one that can be. */
  private static void tellSight(HillLayers x, Told t, Row row) {
    int where = row.upTo(t.s - 1) * 100 + row.upTo(t.w - 1) * 10 + row.upTo(3);
    int z = where % 10 == 3 ? row.from(-8, 8) : row.from(-2, 62);
    int miss = row.one(3) ? 0 : row.upTo(6);
    if (row.one(12)) where = row.from(-20, 500);
    if (row.one(12)) z = row.from(-70, 70);
    if (row.one(12)) miss = row.from(-5, 70);
    String call = "sight(" + where + ", " + z + ", " + miss + ")";
    due(call, x.sight(where, z, miss), t.sight(where, z, miss));
    calls.append(' ').append(call);
  }

  private static void tell(HillLayers x, Told t, Row row, int narrow) {
    int what = row.upTo(13);
    if (what == 0) {
      int k = row.from(-1, t.s), a = row.from(-1, narrow), b = a + row.from(-1, narrow);
      if (row.one(8)) b = row.from(50, 62);
      did("thick(" + k + ", " + a + ", " + b + ")", x.thick(k, a, b), t.thick(k, a, b));
    } else if (what == 1) {
      int k = row.from(-1, t.s), most = row.one(8) ? row.from(-2, 62) : row.upTo(narrow);
      did("steep(" + k + ", " + most + ")", x.steep(k, most), t.steep(k, most));
    } else if (what == 2) {
      int c = row.from(-1, t.w), most = row.one(4) ? 33 : 9, d = row.from(-most, most);
      did("fault(" + c + ", " + d + ")", x.fault(c, d), t.fault(c, d));
    } else if (what == 3 || what == 4) {
      int c = row.from(-1, t.w);
      did("heal(" + c + ")", x.heal(c), t.heal(c));
    } else if (what == 5) {
      int c = row.from(-1, t.w), d = row.from(-3, 63);
      did("ground(" + c + ", " + d + ")", x.ground(c, d), t.ground(c, d));
    } else if (what == 6) {
      int i = row.from(-1, 10);
      did("take(" + i + ")", x.take(i), t.take(i));
    } else {
      tellSight(x, t, row);
    }
  }

  /** Few columns, little freedom: so that all bodies can be written down. */
  private static int smallHill(int seed) {
    Row row = new Row(seed);
    Told t = new Told(row.from(2, 3), row.from(1, 3));
    HillLayers x = new HillLayers(t.w, t.s);
    run = "small hill " + seed + " of " + t.w + ", " + t.s + ":";
    calls.setLength(0);
    for (int k = 0; k < t.s; k++) {
      int most = row.upTo(2), from = row.upTo(4), to = from + row.upTo(2);
      x.steep(k, most);
      t.steep(k, most);
      did("thick(" + k + ", " + from + ", " + to + ")", x.thick(k, from, to), t.thick(k, from, to));
    }
    int compared = 0;
    for (int call = 0; call < 25; call++) {
      tell(x, t, row, 3);
      Written m = new Written(t);
      if (m.tooMany) continue;
      compare(x, t, m, row, m.agree.size() < 3000);
      compared++;
    }
    return compared;
  }

  private static void anyHill(int seed) {
    Row row = new Row(seed + 1_000_000);
    int w = row.from(0, 9), s = row.from(0, 5);
    Told t = new Told(w, s);
    HillLayers x = new HillLayers(w, s);
    run = "hill " + seed + " of " + w + ", " + s + ":";
    calls.setLength(0);
    int narrow = row.from(4, 15);
    for (int call = 0; call < 30; call++) {
      tell(x, t, row, narrow);
      if (call % 3 == 0) compare(x, t, new Narrowed(t), row, call % 15 == 0);
    }
  }

  public static void main(String[] args) {
    int compared = 0;
    for (int seed = 0; seed < 150; seed++) compared += smallHill(seed);
    for (int seed = 0; seed < 150; seed++) anyHill(seed);
    if (compared < 1000) {
      wrong++;
      System.out.println("only " + compared + " small hills were written down");
    }
    System.out.println(asked + " answers compared, " + compared + " hills written down, " + wrong + " wrong");
    if (wrong != 0) System.exit(1);
  }
}
