import java.nio.file.Files;
import java.nio.file.Path;
import java.util.Arrays;
import java.util.regex.Matcher;
import java.util.regex.Pattern;

/** The list of sentences and their tests names only tests that there are, and leaves no promise out. */
public final class SentencesTest {
  public static void main(String[] args) throws Exception {
    String list = Files.readString(Path.of("src/test/SENTENCES.md"));
    Checks.part("the tests of the sentences");
    Matcher named = Pattern.compile("`(\\w+Test)\\.(\\w+)`").matcher(list);
    while (named.find()) Checks.due(named.group() + " is there", hasTest(named.group(1), named.group(2)), true);
    Checks.part("the promises");
    for (int i = 1; i <= 21; i++) Checks.due("promise " + i + " has a row", list.contains("\n| " + i + " "), true);
    Checks.finish();
  }

  private static boolean hasTest(String type, String name) throws Exception {
    return Arrays.stream(Class.forName(type).getDeclaredMethods()).anyMatch(m -> m.getName().equals(name));
  }
}
