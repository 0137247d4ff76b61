// Each sentence of ../shared/DOC.md that names an edge (too small, too large, empty, full, like
// ones, a refused call) has a test of its own here, under its own words, and numbers that would
// wrap around to a right one are tried with it. No object is called more than 512 times.
public final class EdgesTest {
  private static final int NO = -2147483648;
  private static final int NONE = -1;
  private static final int MIN = Integer.MIN_VALUE;
  private static final int MAX = Integer.MAX_VALUE;
  private static final int HILLS = 4;
  private static final String[] BEFORE = new String[HILLS];
  private static final int[] CAME = {0, 4, 10, 1};
  private static String sentence = "";
  private static int sentences = 0;
  private static int wrong = 0;

  private interface Call {
    int on(HillLayers x);
  }

  private interface Size {
    void of(int w, int s);
  }

  private static void says(String words) {
    sentence = words;
    sentences++;
  }

  private static void due(String call, int got, int want) {
    if (got == want) return;
    wrong++;
    if (wrong < 60) System.out.println("\"" + sentence + "\": " + call + " answered " + got + ", due is " + want);
  }

  private static void due(String call, boolean got, boolean want) {
    due(call, got ? 1 : 0, want ? 1 : 0);
  }

  private static void spanIs(HillLayers x, int surface, int column, int least, int greatest) {
    due("span(" + surface + ", " + column + ", 0)", x.span(surface, column, 0), least);
    due("span(" + surface + ", " + column + ", 1)", x.span(surface, column, 1), greatest);
  }

  private static void betweenIs(HillLayers x, int one, int other, int least, int greatest) {
    due("between(" + one + ", " + other + ", 0)", x.between(one, other, 0), least);
    due("between(" + one + ", " + other + ", 1)", x.between(one, other, 1), greatest);
  }

  private static void eachSize(Size test) {
    for (int w = 2; w <= 8; w++) for (int s = 1; s <= 4; s++) test.of(w, s);
  }

  /** Numbers out of least .. most: just beside it, far out, and some that wrap around into it. */
  private static int[] outside(int least, int most) {
    int[] tried = {least - 1, most + 1, least - 2, most + 2, MIN, MIN + 1, MAX, MAX - 1, least + 256, most - 256,
        least + 65536, most - 65536, least + 32, most - 32, least + MIN, most + MIN, least + (1 << 29), least + (1 << 30),
        429496730, 42949673, -429496730, -42949673};
    int found = 0;
    int[] out = new int[tried.length];
    for (int number : tried) if (number < least || number > most) out[found++] = number;
    return java.util.Arrays.copyOf(out, found);
  }

  /** 0 new; 1 something told of all kinds, with a quarrel; 2 full of sights; 3 no hill. */
  private static HillLayers hill(int which) {
    HillLayers x = new HillLayers(3, 2);
    if (which == 0) return x;
    x.ground(1, 25);
    x.ground(2, 60);
    x.fault(0, 7);
    x.sight(0, 20, 2);
    if (which == 3) {
      x.thick(0, 60, 60);
      x.steep(0, 0);
      return x;
    }
    x.thick(0, 2, 9);
    x.steep(0, 3);
    x.sight(10, 40, 0);
    x.sight(101, 24, 0);
    x.sight(2, 21, 0);
    x.take(3);
    if (which == 1) return x;
    x.sight(13, -2, 1);
    x.sight(112, 32, 9);
    x.sight(12, -1, 0);
    x.sight(121, 26, 0);
    x.sight(20, 24, 1);
    x.sight(103, 8, 3);
    return x;
  }

  /** All that can be asked of a hill of 3 and 2, as one text, in fewer than 200 calls. */
  private static String everything(HillLayers x) {
    StringBuilder all = new StringBuilder();
    for (int what = 0; what < 4; what++) all.append(x.count(what)).append(' ');
    all.append(x.quarrel()).append(' ').append(x.open()).append(' ').append(x.next()).append(' ');
    all.append(x.bend(0)).append(' ').append(x.bend(1)).append('\n');
    for (int k = 0; k < 2; k++) {
      for (int c = 0; c < 3; c++) {
        all.append(x.span(k, c, 0)).append(' ').append(x.span(k, c, 1)).append(' ');
        all.append(x.worn(k, c)).append(' ').append(x.tells(k, c)).append('\n');
        for (int other = 0; other < 6; other++) {
          int to = other / 3 * 10 + other % 3;
          all.append(x.between(k * 10 + c, to, 0)).append(' ').append(x.between(k * 10 + c, to, 1)).append(' ');
        }
      }
    }
    for (int c = 0; c < 3; c++) for (int d = 0; d <= 60; d += 12) all.append(x.layer(c, d)).append(' ');
    for (int i = 0; i < 10; i++) for (int what = 0; what < 6; what++) all.append(x.told(i, what)).append(' ');
    return all.toString();
  }

  /** The call is refused, and changes nothing, whether or not something was asked before it. */
  private static void refusedOn(int which, String name, Call call, int answer) {
    if (BEFORE[which] == null) BEFORE[which] = everything(hill(which));
    HillLayers x = hill(which);
    for (int time = 0; time < 2; time++) {
      due(name + " on hill " + which, call.on(x), answer);
      due("the same after " + name + " on hill " + which, everything(x).equals(BEFORE[which]), true);
    }
    due("next number after " + name, x.sight(1, 0, 0), CAME[which] < 10 ? CAME[which] : NONE);
  }

  private static void refused(String name, Call call, int answer) {
    for (int which = 0; which < HILLS; which++) refusedOn(which, name, call, answer);
  }

  private static int bit(boolean answer) {
    return answer ? 1 : 0;
  }

  // ---- Terms

  private static void termsOfPlaces() {
    says("COLUMNS are 0 .. w - 1 (2 to 8), SURFACES 0 .. s - 1 (1 to 4), 0 the highest");
    eachSize((w, s) -> {
      HillLayers x = new HillLayers(w, s);
      for (int k = 0; k < s; k++) {
        spanIs(x, k, 0, k, 61 - s + k);
        spanIs(x, k, w - 1, k, 61 - s + k);
      }
      spanIs(x, s, 0, NONE, NONE);
      spanIs(x, 0, w, NONE, NONE);
      spanIs(x, -1, 0, NONE, NONE);
      spanIs(x, 0, -1, NONE, NONE);
    });

    says("A BODY gives each SURFACE in each COLUMN a DEPTH (0 .. 60, whole; more is deeper)");
    spanIs(new HillLayers(2, 1), 0, 1, 0, 60);
    HillLayers top = new HillLayers(2, 1);
    due("sight", top.sight(2, 0, 0), 0);
    spanIs(top, 0, 0, 0, 0);
    spanIs(top, 0, 1, 0, 5);
    HillLayers bottom = new HillLayers(2, 1);
    due("sight", bottom.sight(1, 60, 0), 0);
    spanIs(bottom, 0, 0, 60, 60);
    spanIs(bottom, 0, 1, 55, 60);

    says("Between SURFACE k and k + 1 it is THICK in each COLUMN from .. to (0 .. 60 each; 1 to 60 at first)");
    HillLayers thick = new HillLayers(3, 2);
    for (int c = 0; c < 3; c++) betweenIs(thick, c, 10 + c, 1, 60);
    due("none thick", thick.thick(0, 0, 0), true);
    for (int c = 0; c < 3; c++) betweenIs(thick, c, 10 + c, 0, 0);
    due("all thick", thick.thick(0, 60, 60), true);
    for (int c = 0; c < 3; c++) betweenIs(thick, c, 10 + c, 60, 60);
    due("any thick", thick.thick(0, 0, 60), true);
    for (int c = 0; c < 3; c++) betweenIs(thick, c, 10 + c, 0, 60);
    spanIs(thick, 1, 2, 0, 60);
  }

  private static void termsOfSteps() {
    says("STEEP is a SURFACE: from a COLUMN to the next one its DEPTH differs by that at most (0 .. 60; 5 at first)");
    HillLayers steep = new HillLayers(3, 1);
    betweenIs(steep, 0, 1, -5, 5);
    betweenIs(steep, 2, 1, -5, 5);
    betweenIs(steep, 0, 2, -10, 10);
    due("flat", steep.steep(0, 0), true);
    betweenIs(steep, 0, 2, 0, 0);
    due("free", steep.steep(0, 60), true);
    betweenIs(steep, 1, 2, -60, 60);

    says("with a FAULT between both, of a THROW (-30 .. 30): the second one's DEPTH less the first one's differs"
        + " from the THROW by that at most");
    HillLayers broken = new HillLayers(2, 1);
    due("deepest throw", broken.fault(0, 30), true);
    betweenIs(broken, 0, 1, 25, 35);
    betweenIs(broken, 1, 0, -35, -25);
    due("highest throw", broken.fault(0, -30), true);
    betweenIs(broken, 0, 1, -35, -25);
    due("throw 0", broken.fault(0, 0), true);
    betweenIs(broken, 0, 1, -5, 5);
    due("steep 0", broken.steep(0, 0), true);
    due("throw -30", broken.fault(0, -30), true);
    betweenIs(broken, 0, 1, -30, -30);
    due("steep 60", broken.steep(0, 60), true);
    betweenIs(broken, 0, 1, -60, 30);

    says("for all SURFACES");
    HillLayers all = new HillLayers(2, 4);
    due("throw", all.fault(0, 30), true);
    for (int k = 0; k < 4; k++) betweenIs(all, k * 10, k * 10 + 1, 25, 35);
  }

  private static void termsOfSights() {
    says("SIGHTS have numbers as they come, at most 10");
    HillLayers x = new HillLayers(2, 1);
    for (int number = 0; number < 10; number++) due("sight", x.sight(1, 0, 0), number);
    for (int more = 0; more < 3; more++) due("one more", x.sight(1, 0, 0), NONE);
    due("sights there", x.count(2), 10);

    says("0 the DEPTH differs from z by m at most");
    seen(0, 20, 3, 17, 23);
    seen(0, 20, 0, 20, 20);
    seen(0, 0, 0, 0, 0);
    seen(0, 60, 0, 60, 60);
    seen(0, 60, 60, 0, 60);
    seen(0, 0, 60, 0, 60);
    seen(0, 59, 60, 0, 60);
    seen(0, -60, 60, 0, 0);
    seen(0, -1, 1, 0, 0);
    unseen(0, -1, 0);
    unseen(0, -60, 59);

    says("1 it isn't less than z (MISS doesn't matter)");
    seen(1, 20, 0, 20, 60);
    seen(1, 20, 60, 20, 60);
    seen(1, 60, 60, 60, 60);
    seen(1, 0, 0, 0, 60);
    seen(1, -60, 0, 0, 60);

    says("2 it isn't more than z (likewise)");
    seen(2, 20, 0, 0, 20);
    seen(2, 20, 60, 0, 20);
    seen(2, 60, 0, 0, 60);
    seen(2, 0, 60, 0, 0);
    unseen(2, -1, 0);
    unseen(2, -1, 60);
    unseen(2, -60, 60);
  }

  private static void seen(int kind, int z, int miss, int least, int greatest) {
    HillLayers x = new HillLayers(2, 1);
    due("sight(" + kind + ", " + z + ", " + miss + ")", x.sight(kind, z, miss), 0);
    due("quarrel after z " + z + ", miss " + miss, x.quarrel(), 0);
    spanIs(x, 0, 0, least, greatest);
    // just at the ends another sight agrees, just beyond them one of both is left out
    due("the least", x.sight(2, least, 0), 1);
    due("quarrel with the least", x.quarrel(), 0);
    due("take", x.take(1), true);
    due("the greatest", x.sight(1, greatest, 0), 2);
    due("quarrel with the greatest", x.quarrel(), 0);
    due("take", x.take(2), true);
    due("below the least", x.sight(2, least - 1, 0), 3);
    due("quarrel with less", x.quarrel(), least == 0 ? 8 : 1);
    due("take", x.take(3), true);
    if (greatest < 60) due("beyond the greatest", x.sight(1, greatest + 1, 0), 4);
    due("quarrel with more", x.quarrel(), greatest < 60 ? 1 : 0);
  }

  private static void unseen(int kind, int z, int miss) {
    HillLayers x = new HillLayers(2, 1);
    due("sight(" + kind + ", " + z + ", " + miss + ")", x.sight(kind, z, miss), 0);
    due("quarrel after z " + z + ", miss " + miss, x.quarrel(), 1);
    spanIs(x, 0, 0, 0, 60);
  }

  private static void termsOfDips() {
    says("3 the DEPTH in COLUMN x + 1 less that in x differs from z by m at most");
    dip(60, 2, 1, 1, 3);
    dip(60, -2, 1, -3, -1);
    dip(60, 0, 0, 0, 0);
    dip(60, 60, 0, 60, 60);
    dip(60, -60, 0, -60, -60);
    dip(60, 60, 60, 0, 60);
    dip(60, -60, 60, -60, 0);
    dip(60, 0, 60, -60, 60);
    dip(5, 6, 1, 5, 5);
    dip(5, -6, 1, -5, -5);
    dip(5, 5, 0, 5, 5);
    HillLayers steep = new HillLayers(2, 1);
    due("too steep by one", steep.sight(3, 6, 0), 0);
    due("quarrel", steep.quarrel(), 1);
    due("too steep up by one", steep.sight(3, -7, 1), 1);
    due("quarrel", steep.quarrel(), 3);
    HillLayers broken = new HillLayers(2, 1);
    due("throw", broken.fault(0, 10), true);
    due("of the depths, not of the throw", broken.sight(3, 10, 0), 0);
    betweenIs(broken, 0, 1, 10, 10);
    HillLayers last = new HillLayers(8, 4);
    due("the last step", last.sight(363, 5, 0), 0);
    betweenIs(last, 36, 37, 5, 5);
    betweenIs(last, 35, 36, -5, 5);

    says("A SIGHT that went counts no more");
    HillLayers x = new HillLayers(2, 1);
    due("sight", x.sight(0, 10, 0), 0);
    due("sight", x.sight(2, -1, 0), 1);
    due("quarrel", x.quarrel(), 2);
    due("take", x.take(0), true);
    due("take", x.take(1), true);
    due("quarrel", x.quarrel(), 0);
    due("sights there", x.count(2), 0);
    due("open", x.open(), 120);
    due("told", x.told(0, 3), NO);
  }

  private static void dip(int steep, int z, int miss, int least, int greatest) {
    HillLayers x = new HillLayers(2, 1);
    due("steep", x.steep(0, steep), true);
    due("sight(3, " + z + ", " + miss + ")", x.sight(3, z, miss), 0);
    due("quarrel", x.quarrel(), 0);
    betweenIs(x, 0, 1, least, greatest);
    spanIs(x, 0, 0, Math.max(0, -greatest), Math.min(60, 60 - least));
    spanIs(x, 0, 1, Math.max(0, least), Math.min(60, 60 + greatest));
  }

  private static void termsOfTheHill() {
    says("If there is no BODY even without any SIGHT, there is no HILL, and nothing of a BODY can be asked");
    HillLayers x = hill(3);
    due("quarrel", x.quarrel(), NONE);
    due("open", x.open(), NONE);
    due("next", x.next(), NONE);
    due("bend(0)", x.bend(0), NONE);
    due("bend(1)", x.bend(1), NONE);
    spanIs(x, 0, 0, NONE, NONE);
    betweenIs(x, 0, 0, NO, NO);
    due("layer", x.layer(0, 60), NONE);
    due("worn", x.worn(0, 2), NONE);
    due("tells", x.tells(0, 0), NONE);
    due("told(0, 5)", x.told(0, 5), NO);
    // what is told can still be asked, and told
    for (int what = 0; what < 5; what++) due("told(0, " + what + ")", x.told(0, what), what == 3 ? 20 : what == 4 ? 2 : 0);
    due("count(2)", x.count(2), 1);
    due("count(3)", x.count(3), 1);
    due("sight", x.sight(10, 7, 0), 1);
    due("ground", x.ground(1, 8), true);
    due("heal", x.heal(0), true);
    due("a hill again", x.quarrel(), 3);
    due("ground counts", x.worn(0, 1), 2);

    says("just a HILL, and just none");
    hillOrNone(20, 20, 20, true);
    hillOrNone(20, 20, 21, false);
    hillOrNone(60, 0, 0, true);
    hillOrNone(60, 1, 0, false);
    hillOrNone(60, 60, 60, false);
    for (int steep = 0; steep <= 12; steep++) {
      HillLayers throwing = new HillLayers(4, 1);
      for (int c = 0; c < 3; c++) due("throw", throwing.fault(c, 30), true);
      due("steep", throwing.steep(0, steep), true);
      due("three throws of 30, steep " + steep, throwing.quarrel(), 3 * (30 - steep) <= 60 ? 0 : NONE);
    }
  }

  private static void hillOrNone(int first, int second, int third, boolean hill) {
    HillLayers x = new HillLayers(2, 4);
    due("thick", x.thick(0, first, 60), true);
    due("thick", x.thick(1, second, 60), true);
    due("thick", x.thick(2, third, 60), true);
    due("quarrel of " + first + ", " + second + ", " + third, x.quarrel(), hill ? 0 : NONE);
    due("open of it", x.open(), hill ? 8 * (60 - first - second - third) : NONE);
  }

  private static void termsOfRefusal() {
    says("What is refused changes nothing");
    // and what is asked changes nothing either
    for (int which = 0; which < HILLS; which++) {
      HillLayers x = hill(which);
      due("the same asked twice on hill " + which, everything(x).equals(everything(x)), true);
    }
    refused("bend(2)", x -> x.bend(2), NONE);
    refused("count(4)", x -> x.count(4), NONE);
    refused("told(10, 0)", x -> x.told(10, 0), NO);
    refused("layer(0, 61)", x -> x.layer(0, 61), NONE);
    refused("between(0, 3, 0)", x -> x.between(0, 3, 0), NO);

    says("An object is used for at most 512 calls after it has been made");
    HillLayers used = new HillLayers(8, 4);
    for (int call = 0; call < 10; call++) due("sight", used.sight(call % 8 * 10, 30, 1), call);
    for (int call = 0; call < 100; call++) {
      due("fault", used.fault(call % 7, 30), true);
      due("next", used.next() >= 0, true);
      due("heal", used.heal(call % 7), true);
      due("quarrel", used.quarrel(), 0);
      due("steep", used.steep(0, call % 5), true);
    }
    due("the 511th", used.span(0, 7, 0), 29);
    due("the 512th", used.span(0, 7, 1), 31);
  }

  // ---- Promises 1 to 8: what is told

  private static void newObject() {
    says("So many COLUMNS and SURFACES (others count as the nearest)");
    int[] tried = {MIN, MIN + 1, -1000, -258, -2, -1, 0, 1, 2, 3, 4, 5, 6, 7, 8, 9, 10, 16, 255, 256, 258, 65538, 1 << 30, MAX - 1, MAX};
    for (int w : tried) {
      for (int s : tried) {
        HillLayers x = new HillLayers(w, s);
        int columns = w < 2 ? 2 : w > 8 ? 8 : w, surfaces = s < 1 ? 1 : s > 4 ? 4 : s;
        due("columns of " + w, x.count(0), columns);
        due("surfaces of " + s, x.count(1), surfaces);
        due("open of " + w + ", " + s, x.open(), columns * surfaces * (61 - surfaces));
      }
    }

    says("A new object: no FAULT, no SIGHT, GROUND 0");
    eachSize((w, s) -> {
      HillLayers x = new HillLayers(w, s);
      due("sights", x.count(2), 0);
      due("faults", x.count(3), 0);
      due("quarrel", x.quarrel(), 0);
      for (int c = 0; c < w; c++) {
        due("heal", x.heal(c), false);
        due("worn", x.worn(0, c), 0);
      }
      for (int i = 0; i < 10; i++) due("take", x.take(i), false);
    });
  }

  private static void thick() {
    says("thick: false if there is none such");
    eachSize((w, s) -> {
      HillLayers x = new HillLayers(w, s);
      for (int k = -2; k < 7; k++) due("thick(" + k + ") of " + s, x.thick(k, 2, 9), k >= 0 && k < s - 1);
    });
    for (int k : outside(0, 0)) refused("thick(" + k + ", 1, 2)", x -> bit(x.thick(k, 1, 2)), 0);

    says("thick: false if it can't be (0 .. 60 each)");
    for (int from : outside(0, 60)) {
      refused("thick(0, " + from + ", 60)", x -> bit(x.thick(0, from, 60)), 0);
      refused("thick(0, " + from + ", " + from + ")", x -> bit(x.thick(0, from, from)), 0);
      refused("thick(0, 0, " + from + ")", x -> bit(x.thick(0, 0, from)), 0);
    }

    says("thick: false if it can't be (from above to, too)");
    int[][] above = {{1, 0}, {60, 0}, {60, 59}, {31, 30}, {2, 1}};
    for (int[] range : above) {
      refused("thick(0, " + range[0] + ", " + range[1] + ")", x -> bit(x.thick(0, range[0], range[1])), 0);
    }
    for (int from = 0; from <= 60; from++) {
      HillLayers x = new HillLayers(2, 2);
      due("from less than to", x.thick(0, from, 60), true);
      due("from as to", x.thick(0, from, from), true);
      betweenIs(x, 0, 10, from, from);
      due("from above to", x.thick(0, from, from - 1), false);
    }
  }

  private static void steep() {
    says("steep: false if there is none such");
    eachSize((w, s) -> {
      HillLayers x = new HillLayers(w, s);
      for (int k = -2; k < 7; k++) due("steep(" + k + ") of " + s, x.steep(k, 2), k >= 0 && k < s);
      for (int k = 0; k < s; k++) betweenIs(x, k * 10 + w - 2, k * 10 + w - 1, -2, 2);
    });
    for (int k : outside(0, 1)) refused("steep(" + k + ", 2)", x -> bit(x.steep(k, 2)), 0);

    says("steep: false if it can't be (0 .. 60)");
    for (int most : outside(0, 60)) {
      refused("steep(0, " + most + ")", x -> bit(x.steep(0, most)), 0);
      refused("steep(1, " + most + ")", x -> bit(x.steep(1, most)), 0);
    }
    for (int most = 0; most <= 60; most++) {
      HillLayers x = new HillLayers(2, 1);
      due("steep", x.steep(0, most), true);
      betweenIs(x, 0, 1, -most, most);
    }
  }

  private static void fault() {
    says("fault: false if there is none such");
    eachSize((w, s) -> {
      HillLayers x = new HillLayers(w, s);
      for (int c = -2; c < 11; c++) due("fault(" + c + ") of " + w, x.fault(c, 1), c >= 0 && c < w - 1);
      due("faults of " + w, x.count(3), w - 1);
    });
    for (int c : outside(0, 1)) refused("fault(" + c + ", 9)", x -> bit(x.fault(c, 9)), 0);

    says("fault: false if the THROW can't be (-30 .. 30)");
    for (int thrown : outside(-30, 30)) {
      refused("fault(0, " + thrown + ")", x -> bit(x.fault(0, thrown)), 0);
      refused("fault(1, " + thrown + ")", x -> bit(x.fault(1, thrown)), 0);
    }
    for (int thrown = -30; thrown <= 30; thrown++) {
      HillLayers x = new HillLayers(2, 1);
      due("fault", x.fault(0, thrown), true);
      due("count(3) with a throw of " + thrown, x.count(3), 1);
      betweenIs(x, 0, 1, thrown - 5, thrown + 5);
    }

    says("A FAULT between a COLUMN and the next one (in place of one there)");
    HillLayers x = new HillLayers(3, 1);
    due("fault", x.fault(1, 30), true);
    due("the same again", x.fault(1, 30), true);
    betweenIs(x, 1, 2, 25, 35);
    due("another", x.fault(1, -30), true);
    betweenIs(x, 1, 2, -35, -25);
    betweenIs(x, 0, 1, -5, 5);
    due("one of them", x.count(3), 1);
  }

  private static void heal() {
    says("The FAULT there goes: true; false if there is none");
    eachSize((w, s) -> {
      HillLayers x = new HillLayers(w, s);
      for (int c = 0; c < w - 1; c++) {
        due("heal before", x.heal(c), false);
        due("fault", x.fault(c, c % 2 == 0 ? 30 : -30), true);
        due("in place", x.fault(c, c % 3 == 0 ? 0 : 7), true);
      }
      for (int c = -2; c < 11; c++) {
        due("heal(" + c + ") of " + w, x.heal(c), c >= 0 && c < w - 1);
        due("heal(" + c + ") twice", x.heal(c), false);
        if (c >= 0 && c < w - 1) betweenIs(x, c, c + 1, -5, 5);
      }
      due("none left", x.count(3), 0);
    });
    for (int c : outside(0, 0)) refused("heal(" + c + ")", x -> bit(x.heal(c)), 0);
    refusedOn(0, "heal(0) without a fault", x -> bit(x.heal(0)), 0);
  }

  private static void ground() {
    says("ground: false if there is no such COLUMN");
    eachSize((w, s) -> {
      HillLayers x = new HillLayers(w, s);
      for (int c = -2; c < 11; c++) due("ground(" + c + ") of " + w, x.ground(c, 60), c >= 0 && c < w);
      for (int c = 0; c < w; c++) due("worn", x.worn(0, c), s == 1 ? 1 : 2);
    });
    for (int c : outside(0, 2)) refused("ground(" + c + ", 30)", x -> bit(x.ground(c, 30)), 0);

    says("ground: false if there is no such DEPTH (0 .. 60)");
    for (int depth : outside(0, 60)) {
      for (int c = 0; c < 3; c++) {
        int column = c;
        refused("ground(" + c + ", " + depth + ")", x -> bit(x.ground(column, depth)), 0);
      }
    }
    for (int depth = 0; depth <= 60; depth++) {
      HillLayers x = new HillLayers(2, 1);
      due("sight", x.sight(0, 30, 0), 0);
      due("ground", x.ground(0, depth), true);
      due("worn with ground " + depth, x.worn(0, 0), depth > 30 ? 2 : 0);
      due("no rule for bodies", x.open(), 10);
    }
  }

  private static void sightPlaces() {
    says("sight: NONE if there is none such (of KIND 3 no next COLUMN)");
    eachSize((w, s) -> {
      HillLayers x = new HillLayers(w, s);
      int came = 0;
      for (int where = -20; where < 520; where++) {
        int k = where / 100, c = where / 10 % 10, kind = where % 10;
        boolean right = where >= 0 && k < s && c < w && kind <= 3 && (kind != 3 || c < w - 1);
        due("sight(" + where + ") of " + w + ", " + s, x.sight(where, 7, 2), right ? came : NONE);
        if (right) {
          int[] all = {k, c, kind, 7, 2};
          for (int what = 0; what < 5; what++) due("told", x.told(came, what), all[what]);
          came++;
        }
        if (came == 10 || where % 40 == 0) {
          x = new HillLayers(w, s);
          came = 0;
        }
      }
    });
    int[] wheres = {4, 5, 9, 14, 23, 24, 30, 33, 39, 90, 99, 123, 130, 200, 210, 300, 1000, 10000, -1, -3, -10, -23, -100, -113};
    for (int where : wheres) refused("sight(" + where + ", 20, 2)", x -> x.sight(where, 20, 2), NONE);
    for (int where : outside(0, 122)) refused("sight(" + where + ", 20, 2)", x -> x.sight(where, 20, 2), NONE);
  }

  private static void sightNumbers() {
    says("sight: NONE if z isn't -60 .. 60");
    for (int z : outside(-60, 60)) {
      for (int kind = 0; kind <= 3; kind++) {
        int where = kind;
        refused("sight(" + kind + ", " + z + ", 0)", x -> x.sight(where, z, 0), NONE);
      }
    }
    for (int kind = 0; kind <= 3; kind++) {
      HillLayers x = new HillLayers(2, 1);
      due("z -60", x.sight(kind, -60, 0), 0);
      due("z 60", x.sight(kind, 60, 0), 1);
      due("told -60", x.told(0, 3), -60);
      due("told 60", x.told(1, 3), 60);
    }

    says("sight: NONE if the MISS can't be (0 .. 60)");
    for (int miss : outside(0, 60)) {
      for (int kind = 0; kind <= 3; kind++) {
        int where = kind;
        refused("sight(" + kind + ", 0, " + miss + ")", x -> x.sight(where, 0, miss), NONE);
      }
    }
    for (int kind = 0; kind <= 3; kind++) {
      HillLayers x = new HillLayers(2, 1);
      due("miss 0", x.sight(kind, 0, 0), 0);
      due("miss 60", x.sight(kind, 0, 60), 1);
      due("told 0", x.told(0, 4), 0);
      due("told 60", x.told(1, 4), 60);
    }

    says("sight: NONE if 10 came");
    refusedOn(2, "the eleventh", x -> x.sight(0, 20, 2), NONE);
    HillLayers x = new HillLayers(2, 1);
    for (int number = 0; number < 10; number++) {
      due("refused ones don't come", x.sight(4, 0, 0), NONE);
      due("sight", x.sight(0, 20, number), number);
    }
    for (int number = 0; number < 10; number++) {
      due("take", x.take(number), true);
      due("10 came, though some went", x.sight(0, 20, 0), NONE);
    }
    due("none there", x.count(2), 0);
  }

  private static void take() {
    says("A SIGHT goes: true; false if there is none such");
    for (int number : outside(0, 9)) refused("take(" + number + ")", x -> bit(x.take(number)), 0);
    for (int number = 0; number < 10; number++) {
      int sight = number;
      refusedOn(0, "take(" + number + ") of none", x -> bit(x.take(sight)), 0);
      if (number > 2) refusedOn(1, "take(" + number + ") of what went or didn't come", x -> bit(x.take(sight)), 0);
    }
    refusedOn(2, "take(3), which went", x -> bit(x.take(3)), 0);
    HillLayers x = new HillLayers(2, 1);
    for (int number = 0; number < 10; number++) {
      due("not yet", x.take(number), false);
      due("sight", x.sight(0, 20, 0), number);
    }
    for (int number = 9; number >= 0; number--) {
      due("take", x.take(number), true);
      due("twice", x.take(number), false);
      due("left", x.count(2), number);
    }
  }

  // ---- Promises 9 to 19: what is asked

  private static void quarrel() {
    says("QUARREL: the fewest SIGHTS (that are there) without which there is a BODY that AGREES with all others");
    HillLayers like = new HillLayers(2, 1);
    due("no sight", like.quarrel(), 0);
    for (int number = 0; number < 10; number++) {
      due("sight", like.sight(0, 20, 0), number);
      due("all agree", like.quarrel(), 0);
    }
    HillLayers never = new HillLayers(2, 1);
    for (int number = 0; number < 10; number++) {
      due("sight", never.sight(2, -1, 0), number);
      due("none agrees", never.quarrel(), (2 << number) - 1);
    }
    for (int number = 0; number < 10; number++) {
      due("take", never.take(number), true);
      due("only those there", never.quarrel(), 1023 & ~((2 << number) - 1));
    }
    HillLayers few = new HillLayers(2, 1);
    due("two of a kind", few.sight(0, 10, 0), 0);
    due("two of a kind", few.sight(0, 10, 1), 1);
    due("and one other", few.sight(0, 40, 0), 2);
    due("one is fewer than two, though a greater number", few.quarrel(), 4);

    says("of like ones that heap which is least as a number (bits by SIGHTS)");
    int[][] depths = {{10, 40, 40, 10}, {10, 10, 40, 40}, {10, 40, 10, 40}, {10, 40}, {40, 25, 10}};
    int[] least = {6, 3, 5, 1, 3};
    for (int i = 0; i < depths.length; i++) {
      HillLayers x = new HillLayers(2, 1);
      for (int d : depths[i]) x.sight(0, d, 0);
      due("quarrel of row " + i, x.quarrel(), least[i]);
    }
    HillLayers last = new HillLayers(2, 1);
    for (int number = 0; number < 8; number++) due("sight", last.sight(1, 0, 0), number);
    due("sight", last.sight(0, 10, 0), 8);
    due("sight", last.sight(0, 40, 0), 9);
    due("the last two", last.quarrel(), 256);

    says("QUARREL (bits); NONE if there is no HILL");
    HillLayers x = new HillLayers(2, 2);
    due("sight", x.sight(2, -1, 0), 0);
    due("a hill", x.quarrel(), 1);
    due("flat", x.steep(0, 0), true);
    due("thick", x.thick(0, 60, 60), true);
    due("still one", x.quarrel(), 1);
    due("throw", x.fault(0, 1), true);
    due("none", x.quarrel(), NONE);
    due("steeper", x.steep(0, 1), true);
    due("one again", x.quarrel(), 1);
    due("throw", x.fault(0, 6), true);
    due("none again", x.quarrel(), NONE);
    due("healed", x.heal(0), true);
    due("one again", x.quarrel(), 1);
    due("take", x.take(0), true);
    due("nothing to leave out", x.quarrel(), 0);
  }

  private static void spanAndOpen() {
    says("SPAN: the least (what 0) or greatest (1) DEPTH; NONE if there is no HILL, or none such");
    eachSize((w, s) -> {
      for (int k = -2; k < 7; k++) {
        HillLayers x = new HillLayers(w, s);
        for (int c = -2; c < 11; c++) {
          boolean place = k >= 0 && k < s && c >= 0 && c < w;
          for (int what = -1; what <= 2; what++) {
            boolean right = place && (what == 0 || what == 1);
            due("span(" + k + ", " + c + ", " + what + ")", x.span(k, c, what), !right ? NONE : what == 0 ? k : 61 - s + k);
          }
        }
      }
    });
    for (int k : outside(0, 1)) refused("span(" + k + ", 0, 0)", x -> x.span(k, 0, 0), NONE);
    for (int c : outside(0, 2)) refused("span(0, " + c + ", 0)", x -> x.span(0, c, 0), NONE);
    for (int what : outside(0, 1)) refused("span(0, 0, " + what + ")", x -> x.span(0, 0, what), NONE);

    says("over all BODIES that AGREE with all SIGHTS but the QUARREL's");
    HillLayers x = new HillLayers(2, 1);
    due("sight", x.sight(0, 10, 0), 0);
    spanIs(x, 0, 0, 10, 10);
    due("sight", x.sight(0, 30, 1), 1);
    spanIs(x, 0, 0, 29, 31);
    due("take", x.take(1), true);
    spanIs(x, 0, 0, 10, 10);
    due("take", x.take(0), true);
    spanIs(x, 0, 0, 0, 60);

    says("OPEN is the sum of all that the greatest ones are more than the least ones; NONE if there is no HILL");
    eachSize((w, s) -> {
      HillLayers y = new HillLayers(w, s);
      due("all open", y.open(), w * s * (61 - s));
      for (int k = 0; k < s; k++) {
        due("sight", y.sight(k * 100, 20 + k, 0), k);
        due("steep", y.steep(k, 0), true);
        due("open with " + (k + 1) + " fast", y.open() > 0, k + 1 < s);
      }
      due("nothing open", y.open(), 0);
    });
    refusedOn(3, "open()", HillLayers::open, NONE);
  }

  private static void layer() {
    says("LAYER of a place: so many SURFACES as are not deeper than it");
    HillLayers x = new HillLayers(2, 4);
    int[] depths = {0, 1, 30, 60};
    for (int k = 0; k < 4; k++) due("sight", x.sight(k * 100, depths[k], 0), k);
    for (int d = 0; d <= 60; d++) due("layer(0, " + d + ")", x.layer(0, d), d < 1 ? 1 : d < 30 ? 2 : d < 60 ? 3 : 4);
    HillLayers none = new HillLayers(2, 2);
    due("sight", none.sight(0, 59, 0), 0);
    due("above all", none.layer(0, 58), 0);
    due("on the first", none.layer(0, 59), 1);
    due("on the last", none.layer(0, 60), 2);
    HillLayers at = new HillLayers(2, 4);
    for (int k = 0; k < 3; k++) due("thick", at.thick(k, 0, 0), true);
    due("sight", at.sight(200, 30, 0), 0);
    due("just above all at once", at.layer(0, 29), 0);
    due("on all at once", at.layer(0, 30), 4);

    says("SURE, if that is the same in all these BODIES; NONE if it isn't");
    HillLayers sure = new HillLayers(2, 1);
    due("sight", sure.sight(0, 30, 2), 0);
    for (int d = 0; d <= 60; d++) due("layer(0, " + d + ")", sure.layer(0, d), d < 28 ? 0 : d < 32 ? NONE : 1);
    for (int d = 0; d <= 60; d++) due("layer(1, " + d + ")", sure.layer(1, d), d < 23 ? 0 : d < 37 ? NONE : 1);
    due("of a new one, the bottom", new HillLayers(2, 4).layer(1, 60), 4);
    due("of a new one, the top", new HillLayers(2, 4).layer(1, 0), NONE);

    says("layer: NONE if there is no HILL, or no such place (DEPTH 0 .. 60)");
    eachSize((w, s) -> {
      HillLayers y = new HillLayers(w, s);
      for (int c = -2; c < 11; c++) due("layer(" + c + ", 60)", y.layer(c, 60), c >= 0 && c < w ? s : NONE);
    });
    for (int c : outside(0, 2)) refused("layer(" + c + ", 60)", y -> y.layer(c, 60), NONE);
    for (int d : outside(0, 60)) refused("layer(1, " + d + ")", y -> y.layer(1, d), NONE);
    for (int d = 0; d <= 60; d += 20) {
      int depth = d;
      refusedOn(3, "layer(0, " + d + ")", y -> y.layer(0, depth), NONE);
    }
  }

  private static void between() {
    says("BETWEEN: places are SURFACE * 10 + COLUMN; -2147483648 if there is no HILL, or none such");
    eachSize((w, s) -> {
      HillLayers x = new HillLayers(w, s);
      for (int code = -12; code < 60; code++) {
        int k = code / 10, c = code % 10;
        boolean place = code >= 0 && k < s && c < w;
        due("between(" + code + ", " + code + ", 0)", x.between(code, code, 0), place ? 0 : NO);
        due("between(" + code + ", " + code + ", 1)", x.between(code, code, 1), place ? 0 : NO);
        due("between(0, " + code + ", 2)", x.between(0, code, 2), NO);
        due("between(0, " + code + ", 0)", x.between(0, code, 0), !place ? NO : k - 5 * c);
        due("between(" + code + ", 0, 1)", x.between(code, 0, 1), !place ? NO : 5 * c - k);
      }
    });
    for (int code : outside(0, 12)) {
      refused("between(0, " + code + ", 0)", x -> x.between(0, code, 0), NO);
      refused("between(" + code + ", 0, 1)", x -> x.between(code, 0, 1), NO);
    }
    for (int code = 3; code < 10; code++) {
      int beside = code;
      refused("between(0, " + code + ", 0)", x -> x.between(0, beside, 0), NO);
      refused("between(1" + code + ", 0, 0)", x -> x.between(10 + beside, 0, 0), NO);
    }
    for (int what : outside(0, 1)) refused("between(0, 1, " + what + ")", x -> x.between(0, 1, what), NO);
    refusedOn(3, "between(0, 12, 1)", x -> x.between(0, 12, 1), NO);

    says("the least and the greatest of how much deeper the second one is");
    HillLayers x = new HillLayers(2, 2);
    due("sight", x.sight(0, 0, 0), 0);
    due("sight", x.sight(101, 60, 0), 1);
    betweenIs(x, 0, 10, 60, 60);
    betweenIs(x, 10, 0, -60, -60);
    betweenIs(x, 10, 10, 0, 0);
    betweenIs(x, 1, 10, 55, 60);
    betweenIs(x, 0, 1, 0, 5);
    betweenIs(x, 11, 10, 0, 5);
  }

  private static void worn() {
    says("a SURFACE is WORN there, if it is less deep than GROUND in all these BODIES (2), in some (1), in none (0)");
    for (int ground = 0; ground <= 60; ground++) {
      HillLayers x = new HillLayers(2, 1);
      due("sight", x.sight(0, 30, 2), 0);
      due("ground", x.ground(0, ground), true);
      due("ground", x.ground(1, ground), true);
      due("worn with ground " + ground, x.worn(0, 0), ground > 32 ? 2 : ground > 28 ? 1 : 0);
      due("beside it", x.worn(0, 1), ground > 37 ? 2 : ground > 23 ? 1 : 0);
    }
    HillLayers ends = new HillLayers(2, 2);
    due("at the top", ends.sight(0, 0, 0), 0);
    due("at the bottom", ends.sight(100, 60, 0), 1);
    due("ground 0 wears nothing", ends.worn(0, 0), 0);
    due("ground", ends.ground(0, 1), true);
    due("ground 1 does", ends.worn(0, 0), 2);
    due("ground", ends.ground(0, 60), true);
    due("what is at 60 never is", ends.worn(1, 0), 0);

    says("worn: NONE if there is no HILL, or none such");
    placesOf((x, k, c) -> x.worn(k, c), "worn", 0);
  }

  private interface Place {
    int ask(HillLayers x, int surface, int column);
  }

  /** A new hill of each size answers so at each place, and NONE out of them or without a hill. */
  private static void placesOf(Place asked, String name, int answer) {
    eachSize((w, s) -> {
      HillLayers x = new HillLayers(w, s);
      for (int k = -2; k < 7; k++) {
        for (int c = -2; c < 11; c++) {
          boolean place = k >= 0 && k < s && c >= 0 && c < w;
          int got = asked.ask(x, k, c);
          due(name + "(" + k + ", " + c + ") of " + w + ", " + s, place && got >= answer ? answer : got, place ? answer : NONE);
        }
      }
    });
    for (int k : outside(0, 1)) refused(name + "(" + k + ", 0)", x -> asked.ask(x, k, 0), NONE);
    for (int c : outside(0, 2)) {
      refused(name + "(0, " + c + ")", x -> asked.ask(x, 0, c), NONE);
      refused(name + "(1, " + c + ")", x -> asked.ask(x, 1, c), NONE);
    }
    for (int c = 0; c < 3; c++) {
      int column = c;
      refusedOn(3, name + "(1, " + c + ")", x -> asked.ask(x, 1, column), NONE);
    }
  }

  private static void tells() {
    says("each that is of some of these BODIES can come; TELLS is OPEN less what it is then at most");
    HillLayers two = new HillLayers(2, 1);
    due("of 120 10 are left", two.tells(0, 0), 110);
    due("steep 60", two.steep(0, 60), true);
    due("only itself", two.tells(0, 1), 60);
    due("steep 0", two.steep(0, 0), true);
    due("all", two.tells(0, 1), 120);
    due("sight", two.sight(0, 20, 0), 0);
    due("nothing is open", two.tells(0, 1), 0);
    HillLayers edge = new HillLayers(2, 1);
    due("at the top", edge.sight(2, 0, 0), 0);
    // column 1 is 0 .. 5, whichever of them comes nothing is left
    due("known", edge.tells(0, 0), 0);
    due("all that is open", edge.tells(0, 1), 5);
    HillLayers worst = new HillLayers(2, 1);
    due("at most 6", worst.sight(2, 6, 0), 0);
    // 0 .. 6 and 0 .. 11: 17 open; a bore of 5 leaves 0 .. 10, one of 6 leaves 1 .. 11, one of 0 but 0 .. 5
    due("the worst counts", worst.tells(0, 0), 7);
    // a bore of 5 leaves 0 .. 6, one of 11 leaves 6 alone
    due("on the other side too", worst.tells(0, 1), 11);

    says("tells: NONE likewise");
    placesOf((x, k, c) -> x.tells(k, c), "tells", 1);
  }

  private static void next() {
    says("NEXT is the place at which a BORE TELLS most, of like ones the least SURFACE, then COLUMN");
    due("both like", new HillLayers(2, 1).next(), 0);
    HillLayers columns = new HillLayers(3, 1);
    due("steep", columns.steep(0, 60), true);
    due("three like ones", columns.next(), 0);
    due("sight", columns.sight(0, 0, 0), 0);
    due("two like ones", columns.next(), 1);
    due("sight", columns.sight(10, 0, 0), 1);
    due("one", columns.next(), 2);
    due("sight", columns.sight(20, 0, 0), 2);
    due("all tell nothing", columns.next(), 0);
    HillLayers both = new HillLayers(2, 2);
    due("thick", both.thick(0, 0, 60), true);
    due("steep", both.steep(0, 60), true);
    due("steep", both.steep(1, 60), true);
    due("sight", both.sight(0, 0, 0), 0);
    due("sight", both.sight(110, 60, 0), 1);
    due("like ones", both.tells(0, 1), 60);
    due("like ones", both.tells(1, 0), 60);
    due("the least surface before the least column", both.next(), 1);
    due("sight", both.sight(10, 0, 0), 2);
    due("then the other", both.next(), 10);
    HillLayers last = new HillLayers(8, 4);
    for (int k = 0; k < 4; k++) due("steep", last.steep(k, 0), true);
    for (int k = 0; k < 3; k++) due("sight", last.sight(k * 100, k, 0), k);
    due("only the last surface is open", last.next(), 30);
    due("steep", last.steep(3, 60), true);
    for (int c = 0; c < 7; c++) due("sight", last.sight(300 + c * 10, 50, 0), 3 + c);
    due("only the last place is open", last.next(), 37);

    says("next: NONE if there is no HILL");
    refusedOn(3, "next()", HillLayers::next, NONE);
  }

  private static void bend() {
    says("the sum, over all SURFACES and COLUMNS but the outer ones");
    for (int s = 1; s <= 4; s++) {
      HillLayers two = new HillLayers(2, s);
      due("sight", two.sight(0, 30, 0), 0);
      due("no column but the outer ones", two.bend(0), 0);
      due("no column but the outer ones", two.bend(1), 0);
    }
    HillLayers three = new HillLayers(3, 1);
    due("sight at the side", three.sight(0, 30, 0), 0);
    due("no bend", three.bend(0), 0);
    due("no bend", three.bend(1), 0);
    due("sight at the other side", three.sight(20, 30, 0), 1);
    // highest 30 25 30, lowest 30 35 30
    due("up in the middle", three.bend(0), 10);
    due("down in the middle", three.bend(1), 10);
    HillLayers all = new HillLayers(4, 2);
    due("steep", all.steep(1, 60), true);
    for (int c = 0; c < 4; c++) due("sight", all.sight(c * 10, c % 2 * 2, 0), c);
    for (int c = 0; c < 4; c++) due("sight", all.sight(100 + c * 10, c % 2 == 0 ? 60 : 40, 0), 4 + c);
    // 0 2 0 2: 4 and 4; 60 40 60 40: 40 and 40
    due("all surfaces", all.bend(0), 88);
    due("all surfaces", all.bend(1), 88);

    says("BEND of the HIGHEST BODY (what 0), the LOWEST (1); NONE if there is no HILL, or of others");
    HillLayers one = new HillLayers(3, 1);
    due("sight", one.sight(10, 58, 0), 0);
    due("highest 53 58 53", one.bend(0), 10);
    due("lowest 60 58 60", one.bend(1), 4);
    for (int what : outside(0, 1)) refused("bend(" + what + ")", x -> x.bend(what), NONE);
    refusedOn(3, "bend(0)", x -> x.bend(0), NONE);
    refusedOn(3, "bend(1)", x -> x.bend(1), NONE);
  }

  private static void told() {
    says("Of a SIGHT: 0 SURFACE, 1 COLUMN, 2 KIND, 3 z, 4 MISS, 5 whether it is of the QUARREL");
    HillLayers x = new HillLayers(8, 4);
    int[][] all = {{0, 0, 0, -60, 0}, {3, 7, 2, 60, 60}, {3, 6, 3, -60, 60}, {0, 7, 1, 0, 1}};
    for (int i = 0; i < all.length; i++) {
      due("sight", x.sight(all[i][0] * 100 + all[i][1] * 10 + all[i][2], all[i][3], all[i][4]), i);
    }
    for (int i = 0; i < all.length; i++) for (int what = 0; what < 5; what++) due("told(" + i + ", " + what + ")", x.told(i, what), all[i][what]);
    for (int i = 0; i < all.length; i++) due("told(" + i + ", 5)", x.told(i, 5), i == 0 ? 1 : 0);
    HillLayers full = new HillLayers(2, 1);
    for (int i = 0; i < 10; i++) due("sight", full.sight(2, i % 2 - 1, 0), i);
    for (int i = 0; i < 10; i++) due("told(" + i + ", 5)", full.told(i, 5), 1 - i % 2);

    says("told: -2147483648 for others");
    for (int what : outside(0, 5)) {
      for (int i = 0; i < 10; i++) {
        int sight = i;
        refused("told(" + i + ", " + what + ")", y -> y.told(sight, what), NO);
      }
    }

    says("told: -2147483648 if there is none such");
    for (int what = 0; what <= 5; what++) {
      int asked = what;
      for (int sight : outside(0, 9)) refused("told(" + sight + ", " + what + ")", y -> y.told(sight, asked), NO);
      refusedOn(0, "told(0, " + what + ") of none", y -> y.told(0, asked), NO);
      refusedOn(1, "told(3, " + what + ") of what went", y -> y.told(3, asked), NO);
      refusedOn(1, "told(4, " + what + ") of what didn't come", y -> y.told(4, asked), NO);
      refusedOn(2, "told(3, " + what + ") of what went", y -> y.told(3, asked), NO);
    }

    says("told: -2147483648 if (of 5) no HILL");
    refusedOn(3, "told(0, 5)", y -> y.told(0, 5), NO);
  }

  private static void count() {
    says("0 COLUMNS, 1 SURFACES, 2 SIGHTS there, 3 FAULTS. NONE for others");
    eachSize((w, s) -> {
      HillLayers x = new HillLayers(w, s);
      for (int i = 0; i < 10; i++) {
        due("sights", x.count(2), i);
        due("sight", x.sight(2, i - 5, 0), i);
      }
      for (int c = 0; c < w - 1; c++) {
        due("faults", x.count(3), c);
        due("fault", x.fault(c, 0), true);
      }
      int[] all = {w, s, 10, w - 1};
      for (int what = 0; what < 4; what++) due("count(" + what + ")", x.count(what), all[what]);
    });
    for (int what : outside(0, 3)) refused("count(" + what + ")", x -> x.count(what), NONE);
  }

  public static void main(String[] args) {
    termsOfPlaces();
    termsOfSteps();
    termsOfSights();
    termsOfDips();
    termsOfTheHill();
    termsOfRefusal();
    newObject();
    thick();
    steep();
    fault();
    heal();
    ground();
    sightPlaces();
    sightNumbers();
    take();
    quarrel();
    spanAndOpen();
    layer();
    between();
    worn();
    tells();
    next();
    bend();
    told();
    count();
    System.out.println(sentences + " sentences that name edges, " + (wrong == 0 ? "all hold" : wrong + " answers are not as due"));
    if (wrong != 0) System.exit(1);
  }
}
