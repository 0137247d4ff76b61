import java.nio.file.Files;
import java.nio.file.Path;
import java.util.ArrayList;
import java.util.List;

// The example of README.md stands here again, line by line; each answer must be the one that the
// comment behind it tells.
public final class ReadmeTest {
  private static int wrong = 0;

  private static void hold(String what, boolean holds) {
    if (holds) return;
    wrong++;
    System.out.println(what);
  }

  private static Object[] answers() {
    HillLayers hill = new HillLayers(3, 2);      // 3 columns, 2 surfaces
    boolean thick = hill.thick(0, 3, 4);         // true: surface 1 is 3 to 4 deeper than surface 0
    boolean steep = hill.steep(0, 2);            // true: surface 0 goes up or down by 2 at most
    boolean broken = hill.fault(1, 12);          // true: from column 1 to 2 all goes down by 12
    int bore = hill.sight(100, 20, 1);           // 0: surface 1, column 0, kind 0: 19 to 21 deep
    int outcrop = hill.sight(22, 20, 0);         // 1: surface 0, column 2, kind 2: not deeper than 20
    int quarrel = hill.quarrel();                // 1: they can't both be; bit 0, the bore, is out
    boolean gone = hill.take(outcrop);           // true: now nothing quarrels
    int least = hill.span(0, 2, 0);              // 23: least depth of surface 0 in column 2
    int greatest = hill.span(0, 2, 1);           // 34: and its greatest
    int open = hill.open();                      // 43: what all greatest are more than all least
    int layer = hill.layer(0, 18);               // 1: surely below surface 0, above surface 1
    int unsure = hill.layer(0, 20);              // -1: below surface 1 in some bodies alone
    int deeper = hill.between(0, 12, 1);         // 20: surface 1, column 2, below surface 0, column 0
    boolean ground = hill.ground(0, 17);         // true: the air reaches down to 17 in column 0
    int worn = hill.worn(0, 0);                  // 1: surface 0 is worn off there in some bodies
    int tells = hill.tells(0, 0);                // 16: what a bore there surely takes off that sum
    int next = hill.next();                      // 1: the bore that tells most: surface 0, column 1
    int bend = hill.bend(0);                     // 25: how much the highest body bends
    int z = hill.told(bore, 3);                  // 20: what was told of a sight: here its z
    int sights = hill.count(2);                  // 1: sights that are there
    return new Object[] {thick, steep, broken, bore, outcrop, quarrel, gone, least, greatest, open,
        layer, unsure, deeper, ground, worn, tells, next, bend, z, sights};
  }

  private static List<String> example(String file) throws Exception {
    List<String> lines = new ArrayList<>();
    for (String line : Files.readAllLines(Path.of(file))) {
      String code = line.strip();
      if (code.matches("(HillLayers|boolean|int) \\w+ = (new HillLayers|hill\\.).*")) lines.add(code);
    }
    return lines;
  }

  public static void main(String[] args) throws Exception {
    List<String> shown = example("README.md");
    hold("README.md shows another example than is run here", shown.equals(example("src/test/java/ReadmeTest.java")));
    Object[] answers = answers();
    hold("README.md has an example", shown.size() == answers.length + 1);
    for (int i = 1; i < shown.size() && i <= answers.length; i++) {
      String told = shown.get(i).replaceAll(".*// (true|false|-?\\d+): .*", "$1");
      hold(shown.get(i) + " answered " + answers[i - 1], told.equals(String.valueOf(answers[i - 1])));
    }
    System.out.println(wrong == 0 ? "README.md's example is as due" : wrong + " things are not as due");
    if (wrong != 0) System.exit(1);
  }
}
