import java.io.IOException;
import java.nio.charset.StandardCharsets;
import java.nio.file.Files;
import java.nio.file.Path;
import java.util.List;

/**
 * All promises: statements (S) and curves (M) of src/test/data/told.txt, each with a line of what is due of it. What is due
 * there was found in another way: projection and factors by a computer algebra system, signs by numbers of 120 digits.
 */
public final class ToldTest {
  public static void main(String[] args) throws IOException {
    Check check = new Check();
    List<String> lines = Files.readAllLines(Path.of("src/test/data/told.txt"), StandardCharsets.ISO_8859_1);
    for (int i = 0; i + 1 < lines.size(); i += 2) {
      String text = lines.get(i).substring(2).replace("\\n", "\n");
      boolean statement = lines.get(i).charAt(0) == 'S';
      String told = statement ? Check.toldOfStatement(text) : Check.toldOfCurves(text);
      check.due(lines.get(i), told, lines.get(i + 1));
    }
    check.due("there are lines", lines.size() > 1000 ? 1 : 0, 1);
    check.finish();
  }
}
