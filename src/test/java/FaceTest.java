import java.lang.reflect.Constructor;
import java.lang.reflect.Field;
import java.lang.reflect.Method;
import java.lang.reflect.Modifier;
import java.nio.file.Files;
import java.nio.file.Path;
import java.util.Arrays;
import java.util.List;
import java.util.Set;
import java.util.TreeSet;
import java.util.regex.Matcher;
import java.util.regex.Pattern;

/** The public face is the document's and nothing else; the source keeps to those rules of the language that a text search can see. */
public final class FaceTest {
  private static final Set<String> METHODS = new TreeSet<>(Arrays.asList(
      "boolean defect(int)", "void power(int)", "int directory(int,long)", "int file(int,long,int,int)",
      "int replace(int,int,int)", "int remove(int)", "int rename(int,int,long)", "int commit()", "int discover()",
      "int compact()", "int state(int)", "int byteAt(int)", "int spoil(int,int)", "int writes()", "int mark(int,int)",
      "int open(int)", "int node(int,int)", "long name(int)", "int read(int,int)", "int tree(int,int)"));

  public static void main(String[] args) throws Exception {
    members();
    constants();
    source(Files.readString(Path.of("src/main/java/WriteOnceDisc.java")));
    Checks.finish();
  }

  private static void members() {
    Checks.part("members");
    Set<String> methods = new TreeSet<>();
    Set<String> open = new TreeSet<>();
    for (Method m : WriteOnceDisc.class.getDeclaredMethods()) {
      if (m.isSynthetic()) continue;
      if (Modifier.isPublic(m.getModifiers())) {
        methods.add(signature(m));
        open.add(m.getName());
      } else {
        Checks.due(m.getName() + " is private", Modifier.isPrivate(m.getModifiers()), true);
      }
    }
    for (Method m : WriteOnceDisc.class.getDeclaredMethods()) {
      if (Modifier.isPrivate(m.getModifiers())) Checks.due(m.getName() + " bears a public name", open.contains(m.getName()), false);
    }
    if (!methods.equals(METHODS)) Checks.tell("the public methods are " + methods);
    Constructor<?>[] constructors = WriteOnceDisc.class.getDeclaredConstructors();
    Checks.due("constructors", constructors.length, 1);
    Checks.due("it is public", Modifier.isPublic(constructors[0].getModifiers()), true);
    Checks.due("the class is public and final", WriteOnceDisc.class.getModifiers(), Modifier.PUBLIC | Modifier.FINAL);
    for (Class<?> c : WriteOnceDisc.class.getDeclaredClasses()) {
      Checks.due(c.getName() + " is static", Modifier.isStatic(c.getModifiers()), true);
      Checks.due(c.getName() + " is not public", Modifier.isPublic(c.getModifiers()), false);
      long fields = Arrays.stream(c.getDeclaredFields()).filter(f -> !Modifier.isStatic(f.getModifiers())).count();
      Checks.due(c.getName() + " has some twenty fields at most", fields <= 20, true);
    }
  }

  private static String signature(Method m) {
    StringBuilder b = new StringBuilder(m.getReturnType() + " " + m.getName() + "(");
    for (Class<?> type : m.getParameterTypes()) b.append(b.charAt(b.length() - 1) == '(' ? "" : ",").append(type);
    return b.append(")").toString();
  }

  private static void constants() throws Exception {
    Checks.part("constants");
    List<String> names = List.of("NONE", "WRONG", "FULL", "LOST", "NAMED");
    for (Field f : WriteOnceDisc.class.getDeclaredFields()) {
      boolean isOpen = !Modifier.isPrivate(f.getModifiers());
      Checks.due(f.getName() + " is open", isOpen, names.contains(f.getName()));
      if (!isOpen) continue;
      Checks.due(f.getName() + " is constant", f.getModifiers(), Modifier.PUBLIC | Modifier.STATIC | Modifier.FINAL);
      Checks.due(f.getName(), f.getInt(null), -1 - names.indexOf(f.getName()));
    }
  }

  private static void source(String text) {
    Checks.part("source");
    String code = text.replaceAll("(?s)/\\*.*?\\*/", "").replaceAll("//[^\n]*", "");
    String[] refused = {
      "->", "::", "\\bsynchronized\\b", "\\bassert\\b", "\\bfinally\\b", "\\btry\\b", "static \\{", "\\bpackage\\b", "\\bSystem\\.(?!arraycopy)",
      "\\bRandom\\b", "\\bThread\\b", "\\bString\\.", "Exact\\(", "\\bequals\\(", "hashCode", "toString", "\\bdouble\\b", "\\bfloat\\b",
      "import (?!java\\.util\\.(Arrays|NoSuchElementException);)",
    };
    for (String word : refused) {
      Matcher m = Pattern.compile(word).matcher(code);
      if (m.find()) Checks.tell("the source has " + m.group());
    }
    Matcher thrown = Pattern.compile("throw (?!new NoSuchElementException\\(\\);)").matcher(code);
    Checks.due("another throw", thrown.find(), false);
    int lines = 0;
    for (String line : code.split("\n")) {
      lines = line.matches("( {2}| {4})[a-z].*\\) (throws \\w+ )?\\{") ? 0 : lines + 1;
      if (line.matches("( {2}| {4})}") && lines > 60) Checks.tell("a method of " + lines + " lines");
    }
  }
}
