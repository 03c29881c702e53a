import java.io.File;
import java.lang.reflect.Field;
import java.lang.reflect.Method;
import java.lang.reflect.Modifier;
import java.nio.file.Files;
import java.nio.file.Path;
import java.util.ArrayList;
import java.util.List;

/** README's example answers what it says, and README leaves out no call, no constant and no test. */
public final class ReadmeTest {
  public static void main(String[] args) throws Exception {
    String readme = Files.readString(Path.of("README.md"));
    example(readme);
    calls(readme);
    constants(readme);
    tests(readme);
    Checks.finish();
  }

  private static void example(String readme) {
    Checks.part("the example");
    List<String> code = new ArrayList<>();
    List<String> told = new ArrayList<>();
    for (String line : readme.substring(readme.indexOf("```java\n") + 8).split("```")[0].split("\n")) {
      String[] parts = line.split("//", 2);
      code.add(parts[0].trim());
      told.add(parts.length > 1 ? parts[1].trim() : "");
    }
    WriteOnceDisc disc = new WriteOnceDisc(100);
    is(code, 0, "WriteOnceDisc disc = new WriteOnceDisc(100);");
    int docs = disc.directory(0, 0x444F43L);
    is(code, 1, "int docs = disc.directory(0, 0x444F43L);");
    Checks.due("the word of DOC", Checks.word("DOC"), 0x444F43L);
    int file = disc.file(docs, 0x41L, 3000, 7);
    is(code, 2, "int file = disc.file(docs, 0x41L, 3000, 7);");
    Checks.due("the word of A", Checks.word("A"), 0x41L);
    says(told, 3, disc.commit(), "");
    is(code, 3, "int session = disc.commit();");
    disc.power(2);
    is(code, 4, "disc.power(2);");
    disc.replace(file, 100, 9);
    is(code, 5, "disc.replace(file, 100, 9);");
    int writes = disc.writes();
    says(told, 6, disc.commit(), "LOST");
    is(code, 6, "disc.commit();");
    Checks.due("power goes in the third write", disc.writes() - writes, 3);
    says(told, 7, disc.discover(), "");
    is(code, 7, "disc.discover();");
    says(told, 8, disc.open(0), "");
    is(code, 8, "disc.open(0);");
    Checks.due("read(2, 2999)", disc.read(2, 2999), Checks.content(7, 2999));
    is(code, 9, "disc.read(2, 2999);");
    Checks.due("lines", code.size(), 10);
  }

  private static void is(List<String> code, int line, String want) {
    String got = line < code.size() ? code.get(line) : "nothing";
    if (!got.equals(want)) Checks.tell("line " + line + " is " + got + ", this test has " + want);
  }

  /** What a line's comment begins with is the answer: a number, or a constant's name. */
  private static void says(List<String> told, int line, long answer, String constant) {
    String want = constant.equals("LOST") && answer == WriteOnceDisc.LOST ? constant : Long.toString(answer);
    String got = line < told.size() ? told.get(line).split("[;:]")[0] : "nothing";
    if (!got.equals(want)) Checks.tell("line " + line + " says " + got + ", the answer is " + want);
  }

  private static void calls(String readme) {
    Checks.part("the calls");
    for (Method m : WriteOnceDisc.class.getDeclaredMethods()) {
      if (!Modifier.isPublic(m.getModifiers())) continue;
      Checks.due(m.getName() + " has a row", readme.contains("\n| `" + m.getName() + "("), true);
    }
  }

  private static void constants(String readme) throws Exception {
    Checks.part("the constants");
    for (Field f : WriteOnceDisc.class.getFields()) {
      Checks.due(f.getName() + " is told", readme.contains("`" + f.getName() + "` " + f.getInt(null)), true);
    }
  }

  private static void tests(String readme) {
    Checks.part("the tests");
    File[] files = new File("src/test/java").listFiles();
    Checks.due("there are tests", files != null && files.length > 0, true);
    if (files == null) return;
    for (File f : files) {
      String name = f.getName().replace(".java", "");
      if (name.endsWith("Test")) Checks.due(name + " has a row", readme.contains("\n| `" + name + "` |"), true);
    }
  }
}
