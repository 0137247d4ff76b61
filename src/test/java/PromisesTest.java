// Each promise by itself: ordinary inputs, the edges that the document names, and wrong inputs.
public final class PromisesTest {
  private static final int NO = -2147483648;
  private static final int FAR = 2147483647;
  private static int wrong = 0;

  private static void due(String call, int got, int want) {
    if (got != want) {
      wrong++;
      System.out.println(call + " answered " + got + ", due is " + want);
    }
  }

  private static void due(String call, boolean got, boolean want) {
    due(call, got ? 1 : 0, want ? 1 : 0);
  }

  /** All that can be asked, as one text: what is refused must not change it. */
  private static String everything(HillLayers x) {
    StringBuilder all = new StringBuilder();
    for (int what = 0; what < 4; what++) all.append(x.count(what)).append(' ');
    all.append(x.quarrel()).append(' ').append(x.open()).append(' ').append(x.next()).append(' ');
    all.append(x.bend(0)).append(' ').append(x.bend(1)).append('\n');
    for (int k = 0; k < x.count(1); k++) {
      for (int c = 0; c < x.count(0); c++) {
        all.append(x.span(k, c, 0)).append(' ').append(x.span(k, c, 1)).append(' ');
        all.append(x.worn(k, c)).append(' ').append(x.tells(k, c)).append(' ');
      }
    }
    for (int i = 0; i < 10; i++) for (int what = 0; what < 6; what++) all.append(x.told(i, what)).append(' ');
    return all.toString();
  }

  private static void unchanged(String after, HillLayers x, String before) {
    if (!everything(x).equals(before)) {
      wrong++;
      System.out.println("what was refused changed something: " + after);
    }
  }

  private static void promise1NewObject() {
    int[][] sizes = {{2, 1, 2, 1}, {8, 4, 8, 4}, {5, 3, 5, 3}, {1, 0, 2, 1}, {9, 5, 8, 4},
        {-FAR - 1, FAR, 2, 4}, {FAR, -FAR - 1, 8, 1}, {0, -1, 2, 1}};
    for (int[] size : sizes) {
      HillLayers x = new HillLayers(size[0], size[1]);
      due("count(0) of " + size[0], x.count(0), size[2]);
      due("count(1) of " + size[1], x.count(1), size[3]);
    }
    HillLayers x = new HillLayers(4, 3);
    due("count(2)", x.count(2), 0);
    due("count(3)", x.count(3), 0);
    due("quarrel()", x.quarrel(), 0);
    // thick 1 to 60, steep 5, ground 0 and no fault at first
    for (int c = 0; c < 4; c++) {
      for (int k = 0; k < 3; k++) {
        due("first least", x.span(k, c, 0), k);
        due("first greatest", x.span(k, c, 1), 58 + k);
        due("first worn", x.worn(k, c), 0);
      }
    }
    due("first thinnest", x.between(0, 10, 0), 1);
    due("first thickest", x.between(0, 10, 1), 59);
    due("first step down", x.between(11, 12, 0), -5);
    due("first step up", x.between(11, 12, 1), 5);
    due("first open", x.open(), 12 * 58);
    due("constant", HillLayers.NONE, -1);
  }

  private static void promise2Thick() {
    HillLayers x = new HillLayers(2, 3);
    due("thick", x.thick(0, 3, 7), true);
    due("thinnest", x.between(1, 11, 0), 3);
    due("thickest", x.between(1, 11, 1), 7);
    due("the other stays", x.between(11, 21, 0), 1);
    due("thick again", x.thick(0, 0, 0), true);
    due("no thickness", x.between(0, 10, 1), 0);
    due("thick 60", x.thick(1, 60, 60), true);
    due("the lowest at 60", x.span(2, 1, 0), 60);
    due("the others at 0", x.span(1, 0, 1), 0);
    due("thick back", x.thick(1, 0, 60), true);
    due("least of the lowest", x.span(2, 0, 0), 0);
    String before = everything(x);
    due("no surface below", x.thick(2, 1, 2), false);
    due("no such surface", x.thick(3, 1, 2), false);
    due("negative surface", x.thick(-1, 1, 2), false);
    due("far surface", x.thick(FAR, 1, 2), false);
    due("farthest surface", x.thick(-FAR - 1, 1, 2), false);
    due("from above to", x.thick(0, 5, 4), false);
    due("from below 0", x.thick(0, -1, 4), false);
    due("to above 60", x.thick(0, 1, 61), false);
    due("both above 60", x.thick(0, 61, 61), false);
    due("both below 0", x.thick(0, -2, -1), false);
    unchanged("thick", x, before);
    HillLayers one = new HillLayers(3, 1);
    due("one surface alone", one.thick(0, 1, 2), false);
    HillLayers deep = new HillLayers(2, 3);
    due("too thick together 1", deep.thick(0, 31, 60), true);
    due("too thick together 2", deep.thick(1, 30, 60), true);
    due("no hill", deep.quarrel(), -1);
    due("a hill again", deep.thick(1, 29, 29), true);
    due("quarrel of it", deep.quarrel(), 0);
    due("depth of it", deep.span(2, 0, 0), 60);
  }

  private static void promise3Steep() {
    HillLayers x = new HillLayers(3, 2);
    due("steep", x.steep(1, 2), true);
    due("steep up", x.between(10, 11, 1), 2);
    due("steep down", x.between(10, 11, 0), -2);
    due("steep twice", x.between(10, 12, 1), 4);
    due("the other stays", x.between(0, 2, 1), 10);
    due("steep 0", x.steep(1, 0), true);
    due("flat", x.between(10, 12, 1), 0);
    due("steep 60", x.steep(1, 60), true);
    due("free", x.between(10, 12, 1), 59);
    String before = everything(x);
    due("above 60", x.steep(0, 61), false);
    due("below 0", x.steep(0, -1), false);
    due("no such surface", x.steep(2, 5), false);
    due("negative surface", x.steep(-1, 5), false);
    due("far surface", x.steep(FAR, 5), false);
    unchanged("steep", x, before);
  }

  private static void promise4Fault() {
    HillLayers x = new HillLayers(3, 2);
    due("fault", x.fault(1, 12), true);
    due("throw least", x.between(1, 2, 0), 7);
    due("throw most", x.between(1, 2, 1), 17);
    due("throw of all surfaces", x.between(11, 12, 0), 7);
    due("not at the other side", x.between(0, 1, 1), 5);
    due("in place of it", x.fault(1, -30), true);
    due("one fault", x.count(3), 1);
    due("upthrow least", x.between(1, 2, 0), -35);
    due("upthrow most", x.between(11, 12, 1), -25);
    due("throw 0 is a fault too", x.fault(0, 0), true);
    due("two faults", x.count(3), 2);
    due("throw 0", x.between(0, 1, 1), 5);
    due("throw 30", x.fault(0, 30), true);
    due("throw 30 least", x.between(0, 1, 0), 25);
    String before = everything(x);
    due("no next column", x.fault(2, 3), false);
    due("no column", x.fault(3, 3), false);
    due("negative column", x.fault(-1, 3), false);
    due("far column", x.fault(FAR, 3), false);
    due("throw 31", x.fault(0, 31), false);
    due("throw -31", x.fault(0, -31), false);
    unchanged("fault", x, before);
    due("steep with a throw", x.steep(0, 0), true);
    due("just the throw", x.between(0, 1, 1), 30);
  }

  private static void promise5Heal() {
    HillLayers x = new HillLayers(3, 1);
    String before = everything(x);
    due("nothing to heal", x.heal(0), false);
    due("fault", x.fault(0, 9), true);
    due("heal elsewhere", x.heal(1), false);
    due("heal at the last column", x.heal(2), false);
    due("heal outside", x.heal(3), false);
    due("heal below", x.heal(-1), false);
    due("heal far", x.heal(FAR), false);
    due("still there", x.between(0, 1, 0), 4);
    due("heal", x.heal(0), true);
    due("heal twice", x.heal(0), false);
    unchanged("a healed fault", x, before);
    due("fault 0", x.fault(1, 0), true);
    due("heal 0", x.heal(1), true);
    due("no fault", x.count(3), 0);
  }

  private static void promise6Ground() {
    HillLayers x = new HillLayers(2, 1);
    due("sight", x.sight(0, 20, 2), 0);
    due("ground", x.ground(0, 23), true);
    due("wholly worn", x.worn(0, 0), 2);
    due("not the other column", x.worn(0, 1), 0);
    due("ground in place", x.ground(0, 22), true);
    due("partly worn", x.worn(0, 0), 1);
    due("ground 60", x.ground(1, 60), true);
    due("ground 0", x.ground(0, 0), true);
    due("not worn", x.worn(0, 0), 0);
    due("ground binds no body", x.span(0, 1, 0), 13);
    String before = everything(x);
    due("no column", x.ground(2, 5), false);
    due("negative column", x.ground(-1, 5), false);
    due("far column", x.ground(FAR, 5), false);
    due("above 60", x.ground(0, 61), false);
    due("below 0", x.ground(0, -1), false);
    unchanged("ground", x, before);
    due("column 7", new HillLayers(8, 1).ground(7, 1), true);
    due("column 7 of 7", new HillLayers(7, 1).ground(7, 1), false);
  }

  private static void promise7Sight() {
    HillLayers x = new HillLayers(4, 2);
    due("near", x.sight(120, 30, 4), 0);
    due("near least", x.span(1, 2, 0), 26);
    due("near greatest", x.span(1, 2, 1), 34);
    due("not less", x.sight(121, 28, 60), 1);
    due("not less least", x.span(1, 2, 0), 28);
    due("not less greatest", x.span(1, 2, 1), 34);
    due("not more", x.sight(122, 33, 0), 2);
    due("not more greatest", x.span(1, 2, 1), 33);
    due("not more least", x.span(1, 2, 0), 28);
    due("step", x.sight(103, -3, 1), 3);
    due("step least", x.between(10, 11, 0), -4);
    due("step greatest", x.between(10, 11, 1), -2);
    due("step of that surface alone", x.between(0, 1, 1), 5);
    due("no quarrel", x.quarrel(), 0);
    String before = everything(x);
    due("kind 4", x.sight(4, 0, 0), -1);
    due("kind 9", x.sight(9, 0, 0), -1);
    due("column 4", x.sight(40, 0, 0), -1);
    due("column 9", x.sight(90, 0, 0), -1);
    due("surface 2", x.sight(200, 0, 0), -1);
    due("where below 0", x.sight(-1, 0, 0), -1);
    due("where far below 0", x.sight(-FAR - 1, 0, 0), -1);
    due("where far", x.sight(FAR, 0, 0), -1);
    due("no next column", x.sight(33, 0, 0), -1);
    due("z 61", x.sight(0, 61, 0), -1);
    due("z -61", x.sight(0, -61, 0), -1);
    due("z far", x.sight(0, -FAR - 1, 0), -1);
    due("miss 61", x.sight(0, 0, 61), -1);
    due("miss -1", x.sight(0, 0, -1), -1);
    due("miss 61 of kind 1", x.sight(1, 0, 61), -1);
    due("miss -1 of kind 2", x.sight(2, 0, -1), -1);
    unchanged("sight", x, before);
    due("least z, most miss", x.sight(0, -60, 60), 4);
    due("nothing but 0", x.span(0, 0, 1), 0);
    due("take it", x.take(4), true);
    for (int number = 5; number < 10; number++) due("further", x.sight(32, 60, 0), number);
    due("the eleventh", x.sight(32, 60, 0), -1);
    due("take one", x.take(9), true);
    due("ten came, though two went", x.sight(32, 60, 0), -1);
    due("sights there", x.count(2), 8);
  }

  private static void promise8Take() {
    HillLayers x = new HillLayers(2, 1);
    String before = everything(x);
    due("none came", x.take(0), false);
    due("a sight", x.sight(0, 20, 0), 0);
    due("another", x.sight(10, 40, 0), 1);
    due("quarrel", x.quarrel(), 1);
    due("take", x.take(0), true);
    due("quarrel no more", x.quarrel(), 0);
    due("the other holds", x.span(0, 0, 0), 35);
    due("take twice", x.take(0), false);
    due("not come", x.take(2), false);
    due("below 0", x.take(-1), false);
    due("far", x.take(FAR), false);
    due("numbers go on", x.sight(0, 36, 0), 2);
    due("take the last", x.take(2), true);
    due("take the other", x.take(1), true);
    unchanged("all sights went", x, before);
  }

  private static void promise9Quarrel() {
    HillLayers x = new HillLayers(2, 1);
    due("none", x.quarrel(), 0);
    due("s0", x.sight(0, 10, 0), 0);
    due("s1", x.sight(0, 20, 0), 1);
    due("one of two: the least heap", x.quarrel(), 1);
    due("s2", x.sight(0, 10, 5), 2);
    due("fewest before least", x.quarrel(), 2);
    due("s3", x.sight(2, -1, 0), 3);
    due("with one that never can be", x.quarrel(), 10);
    due("s4", x.sight(11, 30, 0), 4);
    due("two sides", x.quarrel(), 26);
    due("take it", x.take(0), true);
    // of 20, 5 .. 15 and 25 or more only one can be
    due("the least of three like ones", x.quarrel(), 14);
    due("span of what is left", x.span(0, 0, 0), 25);
    due("fault", x.fault(0, 10), true);
    due("just near enough", x.quarrel(), 10);
    due("fault", x.fault(0, 9), true);
    due("just too far, but for the other", x.quarrel(), 12);
    due("fault", x.fault(0, 4), true);
    due("too far for both", x.quarrel(), 14);
    due("steep", x.steep(0, 10), true);
    due("steeper, one is near enough", x.quarrel(), 12);
    due("take it", x.take(1), true);
    due("left", x.quarrel(), 12);
    HillLayers y = new HillLayers(3, 1);
    due("fault down", y.fault(0, 30), true);
    due("fault down", y.fault(1, 30), true);
    due("still a hill", y.quarrel(), 0);
    due("flat", y.steep(0, 0), true);
    due("just a hill", y.quarrel(), 0);
    due("its depth", y.span(0, 1, 1), 30);
    HillLayers z = new HillLayers(4, 1);
    for (int c = 0; c < 3; c++) due("fault down", z.fault(c, 30), true);
    due("no hill", z.quarrel(), -1);
    due("sight without a hill", z.sight(0, 10, 0), 0);
    due("no hill with it either", z.quarrel(), -1);
    due("heal", z.heal(1), true);
    due("a hill", z.quarrel(), 0);
    for (int number = 1; number < 10; number++) due("sight", z.sight(2, -1, 0), number);
    due("all but the first", z.quarrel(), 1022);
    HillLayers all = new HillLayers(2, 1);
    for (int number = 0; number < 10; number++) due("sight", all.sight(2, -1, 0), number);
    due("all ten", all.quarrel(), 1023);
    due("no sight holds", all.open(), 120);
  }

  private static void promise10Span() {
    HillLayers x = new HillLayers(3, 2);
    due("sight", x.sight(10, 30, 1), 0);
    due("least", x.span(0, 0, 0), 24);
    due("greatest", x.span(0, 0, 1), 36);
    due("below", x.span(1, 2, 0), 25);
    due("below greatest", x.span(1, 2, 1), 60);
    due("what 2", x.span(0, 0, 2), -1);
    due("what -1", x.span(0, 0, -1), -1);
    due("surface 2", x.span(2, 0, 0), -1);
    due("surface -1", x.span(-1, 0, 0), -1);
    due("column 3", x.span(0, 3, 0), -1);
    due("column -1", x.span(1, -1, 0), -1);
    due("far", x.span(FAR, FAR, FAR), -1);
    due("far below", x.span(-FAR - 1, -FAR - 1, 0), -1);
    due("thick", x.thick(0, 60, 60), true);
    due("quarrel goes out", x.span(0, 0, 1), 0);
    due("fault", x.fault(0, 6), true);
    due("no hill", x.span(0, 0, 0), -1);
    due("no hill", x.span(0, 0, 1), -1);
  }

  private static void promise11Open() {
    HillLayers x = new HillLayers(2, 2);
    due("at first", x.open(), 4 * 59);
    due("sight", x.sight(0, 20, 0), 0);
    due("0, 10 and two of 39 and 44", x.open(), 0 + 10 + 39 + 44);
    due("thick", x.thick(0, 4, 4), true);
    due("no freedom below", x.open(), 10 + 0 + 10);
    due("steep", x.steep(1, 0), true);
    due("all fast", x.open(), 0);
    due("fault", x.fault(0, 30), true);
    due("still", x.open(), 0);
    due("thick", x.thick(0, 60, 60), true);
    due("no hill", x.open(), -1);
  }

  private static void promise12Layer() {
    HillLayers x = new HillLayers(2, 2);
    due("upper", x.sight(0, 10, 0), 0);
    due("lower", x.sight(100, 20, 2), 1);
    due("above all", x.layer(0, 9), 0);
    due("on the upper", x.layer(0, 10), 1);
    due("just above the lower", x.layer(0, 17), 1);
    due("not sure", x.layer(0, 18), -1);
    due("not sure", x.layer(0, 21), -1);
    due("on the lower", x.layer(0, 22), 2);
    due("top", x.layer(0, 0), 0);
    due("bottom", x.layer(0, 60), 2);
    due("the next column", x.layer(1, 4), 0);
    due("the next column, not sure", x.layer(1, 5), -1);
    due("depth 61", x.layer(0, 61), -1);
    due("depth -1", x.layer(0, -1), -1);
    due("column 2", x.layer(2, 10), -1);
    due("column -1", x.layer(-1, 10), -1);
    due("far", x.layer(FAR, FAR), -1);
    due("thick 0", x.thick(0, 0, 0), true);
    due("quarrel", x.quarrel(), 1);
    due("both at once", x.layer(0, 22), 2);
    due("thick", x.thick(0, 60, 60), true);
    due("steep", x.steep(1, 0), true);
    due("fault", x.fault(0, 9), true);
    due("no hill", x.layer(0, 60), -1);
  }

  private static void promise13Between() {
    HillLayers x = new HillLayers(3, 2);
    due("thick", x.thick(0, 2, 6), true);
    due("least", x.between(0, 11, 0), -3);
    due("greatest", x.between(0, 11, 1), 11);
    due("the other way, least", x.between(11, 0, 0), -11);
    due("the other way, greatest", x.between(11, 0, 1), 3);
    due("itself", x.between(12, 12, 0), 0);
    due("itself", x.between(12, 12, 1), 0);
    due("sights", x.sight(0, 10, 0), 0);
    due("sights", x.sight(112, 14, 0), 1);
    due("both fast", x.between(0, 11, 1), 4);
    due("what 2", x.between(0, 11, 2), NO);
    due("what -1", x.between(0, 11, -1), NO);
    due("column 3", x.between(3, 0, 0), NO);
    due("column 9", x.between(0, 9, 0), NO);
    due("surface 2", x.between(0, 20, 0), NO);
    due("-1", x.between(-1, 0, 0), NO);
    due("-10", x.between(0, -10, 0), NO);
    due("far", x.between(FAR, 0, 0), NO);
    due("far below", x.between(0, -FAR - 1, 1), NO);
    due("fault", x.fault(0, 30), true);
    due("fault", x.fault(1, 30), true);
    due("steep", x.steep(0, 0), true);
    due("no hill", x.between(0, 0, 0), NO);
  }

  private static void promise14Worn() {
    HillLayers x = new HillLayers(2, 2);
    due("sight", x.sight(0, 20, 2), 0);
    due("ground", x.ground(0, 18), true);
    due("least is ground", x.worn(0, 0), 0);
    due("ground", x.ground(0, 19), true);
    due("some", x.worn(0, 0), 1);
    due("below, the least is ground", x.worn(1, 0), 0);
    due("ground", x.ground(0, 22), true);
    due("greatest is ground", x.worn(0, 0), 1);
    due("ground", x.ground(0, 23), true);
    due("all", x.worn(0, 0), 2);
    due("below some", x.worn(1, 0), 1);
    due("other column", x.worn(0, 1), 0);
    due("surface 2", x.worn(2, 0), -1);
    due("surface -1", x.worn(-1, 0), -1);
    due("column 2", x.worn(0, 2), -1);
    due("column -1", x.worn(1, -1), -1);
    due("far", x.worn(FAR, -FAR - 1), -1);
    due("thick", x.thick(0, 60, 60), true);
    due("fault", x.fault(0, 6), true);
    due("no hill", x.worn(0, 0), -1);
    due("ground without a hill", x.ground(1, 60), true);
    due("heal", x.heal(0), true);
    due("ground was kept", x.worn(0, 1), 2);
  }

  private static void promise15Tells() {
    HillLayers x = new HillLayers(3, 1);
    due("sight", x.sight(0, 20, 0), 0);
    due("open", x.open(), 30);
    due("of what is known", x.tells(0, 0), 0);
    due("in the middle", x.tells(0, 1), 20);
    due("at the end the worst is the middle", x.tells(0, 2), 20);
    due("surface 1", x.tells(1, 0), -1);
    due("surface -1", x.tells(-1, 0), -1);
    due("column 3", x.tells(0, 3), -1);
    due("column -1", x.tells(0, -1), -1);
    due("far", x.tells(FAR, FAR), -1);
    due("open is as before", x.open(), 30);
    // the sight goes out; then 0 .. 10, 25 .. 35 and 50 .. 60 are left
    due("fault", x.fault(0, 30), true);
    due("fault", x.fault(1, 30), true);
    due("open with a quarrel", x.open(), 30);
    due("tells with a quarrel", x.tells(0, 0), 10);
    due("steep", x.steep(0, 0), true);
    due("nothing to tell", x.tells(0, 1), 0);
    HillLayers none = new HillLayers(4, 1);
    for (int c = 0; c < 3; c++) due("fault", none.fault(c, 30), true);
    due("no hill", none.tells(0, 0), -1);
  }

  private static void promise16Next() {
    HillLayers x = new HillLayers(3, 2);
    due("thick", x.thick(0, 5, 5), true);
    due("of like ones the least surface, then column", x.next(), 1);
    due("sight", x.sight(10, 20, 0), 0);
    due("both sides are like", x.next(), 0);
    due("sight", x.sight(0, 20, 0), 1);
    due("the open side", x.next(), 2);
    due("thick", x.thick(0, 1, 60), true);
    due("sight", x.sight(20, 20, 0), 2);
    due("the lower surface", x.next(), 11);
    due("sight", x.sight(110, 21, 0), 3);
    due("sight", x.sight(100, 21, 0), 4);
    due("its end", x.next(), 12);
    due("sight", x.sight(120, 21, 0), 5);
    due("nothing is open", x.open(), 0);
    due("then the first place", x.next(), 0);
    due("thick", x.thick(0, 60, 60), true);
    due("fault", x.fault(0, 6), true);
    due("no hill", x.next(), -1);
  }

  private static void promise17Bend() {
    HillLayers x = new HillLayers(4, 2);
    due("level", x.bend(0), 0);
    due("level", x.bend(1), 0);
    due("sight", x.sight(10, 30, 0), 0);
    // highest: 25 30 25 20 and 26 31 26 21; lowest: 35 30 35 40 and 60 60 60 60
    due("highest", x.bend(0), 20);
    due("lowest", x.bend(1), 10);
    due("what 2", x.bend(2), -1);
    due("what -1", x.bend(-1), -1);
    due("far", x.bend(FAR), -1);
    HillLayers two = new HillLayers(2, 4);
    due("sight", two.sight(0, 30, 0), 0);
    due("two columns have no inner one", two.bend(0), 0);
    due("thick", x.thick(0, 60, 60), true);
    due("fault", x.fault(0, 6), true);
    due("no hill", x.bend(0), -1);
    due("no hill", x.bend(1), -1);
  }

  private static void promise18Told() {
    HillLayers x = new HillLayers(8, 4);
    due("sight", x.sight(363, -17, 9), 0);
    due("sight", x.sight(271, 20, 60), 1);
    due("sight", x.sight(270, 19, 0), 2);
    int[] first = {3, 6, 3, -17, 9, 1};
    int[] second = {2, 7, 1, 20, 60, 1};
    int[] third = {2, 7, 0, 19, 0, 0};
    for (int what = 0; what < 6; what++) {
      due("told(0, " + what + ")", x.told(0, what), first[what]);
      due("told(1, " + what + ")", x.told(1, what), second[what]);
      due("told(2, " + what + ")", x.told(2, what), third[what]);
      due("told(3, " + what + ")", x.told(3, what), NO);
      due("told(-1, " + what + ")", x.told(-1, what), NO);
      due("told(10, " + what + ")", x.told(10, what), NO);
      due("told far", x.told(FAR, what), NO);
    }
    due("what 6", x.told(0, 6), NO);
    due("what -1", x.told(0, -1), NO);
    due("what far", x.told(0, FAR), NO);
    due("take", x.take(1), true);
    due("it went", x.told(1, 0), NO);
    due("it went", x.told(1, 5), NO);
    due("no quarrel of the others", x.told(2, 5), 0);
    due("fault", x.fault(0, 30), true);
    due("fault", x.fault(1, 30), true);
    due("fault", x.fault(2, 30), true);
    due("no hill, but told", x.told(0, 3), -17);
    due("no hill", x.told(0, 5), NO);
  }

  private static void promise19Count() {
    HillLayers x = new HillLayers(6, 3);
    due("columns", x.count(0), 6);
    due("surfaces", x.count(1), 3);
    due("sights", x.count(2), 0);
    due("faults", x.count(3), 0);
    due("4", x.count(4), -1);
    due("-1", x.count(-1), -1);
    due("far", x.count(FAR), -1);
    for (int number = 0; number < 4; number++) due("sight", x.sight(0, 10 * number, 0), number);
    due("sights", x.count(2), 4);
    due("take", x.take(1), true);
    due("sights left", x.count(2), 3);
    for (int c = 0; c < 5; c++) due("fault", x.fault(c, 30), true);
    due("faults", x.count(3), 5);
    due("in place", x.fault(4, -30), true);
    due("faults", x.count(3), 5);
    due("no hill, but counted", x.quarrel(), -1);
    due("heal", x.heal(0), true);
    due("faults left", x.count(3), 4);
    due("sights without a hill", x.count(2), 3);
  }

  public static void main(String[] args) {
    promise1NewObject();
    promise2Thick();
    promise3Steep();
    promise4Fault();
    promise5Heal();
    promise6Ground();
    promise7Sight();
    promise8Take();
    promise9Quarrel();
    promise10Span();
    promise11Open();
    promise12Layer();
    promise13Between();
    promise14Worn();
    promise15Tells();
    promise16Next();
    promise17Bend();
    promise18Told();
    promise19Count();
    System.out.println(wrong == 0 ? "all promises hold" : wrong + " answers are not as due");
    if (wrong != 0) System.exit(1);
  }
}
