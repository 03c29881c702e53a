/** Promises 4 to 8 and 21: the tree that is to be committed, and its changes. */
public final class ChangesTest {
  private static final int NONE = WriteOnceDisc.NONE, WRONG = WriteOnceDisc.WRONG, FULL = WriteOnceDisc.FULL;
  private static final int LOST = WriteOnceDisc.LOST, NAMED = WriteOnceDisc.NAMED;

  public static void main(String[] args) {
    directories();
    names();
    namesWithGaps();
    namesInADirectoryAreDifferent();
    depth();
    files();
    thirtyNodes();
    orderOfAnswers();
    replacing();
    replacingAtTheEdges();
    removing();
    removingTheRootAlone();
    numbersAreNotGivenAgain();
    renaming();
    renamingDirectories();
    renamingTooDeep();
    powerLost();
    treeWhat();
    Checks.finish();
  }

  private static long w(String name) {
    return Checks.word(name);
  }

  private static void directories() {
    Checks.part("directory");
    WriteOnceDisc x = new WriteOnceDisc(100);
    Checks.due("A", x.directory(0, w("A")), 1);
    Checks.due("A/A", x.directory(1, w("A")), 2);
    Checks.due("B", x.directory(0, w("B")), 3);
    Checks.due("A again", x.directory(0, w("A")), NAMED);
    Checks.due("in no node", x.directory(4, w("C")), WRONG);
    Checks.due("in -1", x.directory(-1, w("C")), WRONG);
    Checks.due("in MAX", x.directory(Integer.MAX_VALUE, w("C")), WRONG);
    Checks.due("a file", x.file(0, w("F"), 0, 0), 4);
    Checks.due("in a file", x.directory(4, w("C")), WRONG);
    Checks.due("with a file's name", x.directory(0, w("F")), NAMED);
    Checks.due("parent of A/A", x.tree(2, 0), 1);
    Checks.due("sort of A/A", x.tree(2, 1), 0);
    Checks.due("size of A/A", x.tree(2, 2), 0);
    Checks.due("extent of A/A", x.tree(2, 4), 0);
  }

  private static void names() {
    Checks.part("names");
    WriteOnceDisc x = new WriteOnceDisc(100);
    Checks.due("none", x.directory(0, 0), WRONG);
    String[] wrong = {"a", "A.", " ", "A B", "A-B", "@", "[", "/", ":", "^", "`", ".;1", "\u0001", "\u0080", "\u00c1", "ABCDEFG~"};
    for (String name : wrong) {
      Checks.due("directory '" + name + "'", x.directory(0, w(name)), WRONG);
      Checks.due("file '" + name + "'", x.file(0, w(name), 1, 1), WRONG);
    }
    Checks.due("below 0", x.directory(0, -1L), WRONG);
    String[] right = {"A", "Z", "0", "9", "_", "ABCDEFGH", "_0Z9A_90", "AB"};
    for (int i = 0; i < right.length; i++) Checks.due(right[i], x.directory(0, w(right[i])), i + 1);
    for (String name : right) Checks.due(name + " again", x.file(0, w(name), 1, 1), NAMED);
  }

  private static void namesWithGaps() {
    Checks.part("bytes of a word that are not 0");
    WriteOnceDisc x = new WriteOnceDisc(100);
    Checks.due("AB, high", x.file(0, w("AB") << 48, 1, 1), 1);
    Checks.due("AB", x.file(0, w("AB"), 1, 1), NAMED);
    Checks.due("AB with a gap", x.file(0, w("A") << 40 | w("B"), 1, 1), NAMED);
    Checks.due("BA with a gap", x.file(0, w("B") << 40 | w("A") << 8, 1, 1), 2);
    x.commit();
    x.open(0);
    Checks.due("name(1)", x.name(1), w("AB"));
    Checks.due("name(2)", x.name(2), w("BA"));
  }

  private static void namesInADirectoryAreDifferent() {
    Checks.part("names in a directory are different");
    WriteOnceDisc x = new WriteOnceDisc(100);
    x.directory(0, w("D"));
    x.directory(0, w("E"));
    Checks.due("a file in D", x.file(1, w("A"), 1, 1), 3);
    Checks.due("a directory in E by that name", x.directory(2, w("A")), 4);
    Checks.due("a file in the root by that name", x.file(0, w("A"), 1, 1), 5);
    Checks.due("its own directory's name", x.file(1, w("D"), 1, 1), 6);
    Checks.due("a file's name for a file", x.file(1, w("A"), 2, 2), NAMED);
    Checks.due("a file's name for a directory", x.directory(1, w("A")), NAMED);
    Checks.due("a directory's name for a file", x.file(2, w("A"), 2, 2), NAMED);
    Checks.due("a directory's name for a directory", x.directory(2, w("A")), NAMED);
    Checks.due("a name that another begins with", x.file(1, w("AA"), 1, 1), 7);
    x.rename(3, 1, w("B"));
    Checks.due("the old name is free", x.directory(1, w("A")), 8);
    Checks.due("commit", x.commit(), 1);
    Checks.due("open", x.open(0), 9);
  }

  private static void depth() {
    Checks.part("depth");
    WriteOnceDisc x = new WriteOnceDisc(100);
    for (int i = 0; i < 6; i++) Checks.due("directory in " + i + " others", x.directory(i, w("D")), i + 1);
    Checks.due("directory in 7 others", x.directory(6, w("D")), WRONG);
    Checks.due("a file may lie there", x.file(6, w("D"), 5, 5), 7);
    Checks.due("a file beside it", x.file(6, w("E"), 5, 5), 8);
    Checks.due("too deep goes before NAMED", x.directory(6, w("E")), WRONG);
    Checks.due("commit", x.commit(), 1);
    Checks.due("open", x.open(0), 9);
  }

  private static void files() {
    Checks.part("file");
    WriteOnceDisc x = new WriteOnceDisc(100);
    Checks.due("size -1", x.file(0, w("A"), -1, 0), WRONG);
    Checks.due("size 6001", x.file(0, w("A"), 6001, 0), WRONG);
    Checks.due("size MIN", x.file(0, w("A"), Integer.MIN_VALUE, 0), WRONG);
    Checks.due("seed -1", x.file(0, w("A"), 1, -1), WRONG);
    Checks.due("seed 256", x.file(0, w("A"), 1, 256), WRONG);
    Checks.due("size 0, seed 0", x.file(0, w("A"), 0, 0), 1);
    Checks.due("size 6000, seed 255", x.file(0, w("B"), 6000, 255), 2);
    Checks.due("the same name", x.file(0, w("B"), 1, 1), NAMED);
    Checks.due("in a file", x.file(1, w("C"), 1, 1), WRONG);
    Checks.due("in no node", x.file(3, w("C"), 1, 1), WRONG);
    Checks.due("parent", x.tree(2, 0), 0);
    Checks.due("sort", x.tree(2, 1), 1);
    Checks.due("size", x.tree(2, 2), 6000);
    Checks.due("seed", x.tree(2, 3), 255);
    Checks.due("extent", x.tree(2, 4), 0);
  }

  private static void thirtyNodes() {
    Checks.part("thirty nodes");
    WriteOnceDisc x = new WriteOnceDisc(100);
    for (int i = 1; i < 30; i++) {
      int got = i % 2 == 0 ? x.directory(0, w("N" + i)) : x.file(0, w("N" + i), i, i);
      Checks.due("node " + i, got, i);
    }
    Checks.due("one more directory", x.directory(0, w("M")), FULL);
    Checks.due("one more file", x.file(0, w("M"), 1, 1), FULL);
    Checks.due("NAMED goes before FULL", x.file(0, w("N7"), 1, 1), NAMED);
    Checks.due("WRONG goes before FULL", x.file(0, w("M"), 6001, 1), WRONG);
    Checks.due("remove", x.remove(4), 0);
    Checks.due("then there is room", x.directory(0, w("M")), 30);
    Checks.due("and no more", x.directory(0, w("O")), FULL);
    Checks.due("commit", x.commit(), 1);
    Checks.due("open", x.open(0), 30);
  }

  private static void orderOfAnswers() {
    Checks.part("the order of answers");
    WriteOnceDisc x = new WriteOnceDisc(100);
    x.directory(0, w("A"));
    Checks.due("WRONG goes before NAMED", x.file(0, w("A"), 0, 256), WRONG);
    x.power(0);
    x.commit();
    Checks.due("LOST goes before WRONG", x.directory(9, 0), LOST);
  }

  private static void replacing() {
    Checks.part("replace");
    WriteOnceDisc x = new WriteOnceDisc(100);
    x.directory(0, w("D"));
    x.file(0, w("F"), 10, 1);
    Checks.due("a directory", x.replace(1, 1, 1), WRONG);
    Checks.due("the root", x.replace(0, 1, 1), WRONG);
    Checks.due("no node", x.replace(3, 1, 1), WRONG);
    Checks.due("size 6001", x.replace(2, 6001, 1), WRONG);
    Checks.due("size -1", x.replace(2, -1, 1), WRONG);
    Checks.due("seed 256", x.replace(2, 1, 256), WRONG);
    Checks.due("seed -1", x.replace(2, 1, -1), WRONG);
    Checks.due("size is as it was", x.tree(2, 2), 10);
    Checks.due("seed is as it was", x.tree(2, 3), 1);
    Checks.due("size 3000, seed 255", x.replace(2, 3000, 255), 0);
    Checks.due("size", x.tree(2, 2), 3000);
    Checks.due("seed", x.tree(2, 3), 255);
    x.defect(0);
    x.commit();
    Checks.due("extent", x.tree(2, 4), 1);
    Checks.due("with the same", x.replace(2, 3000, 255), 0);
    Checks.due("extent of one that is replaced", x.tree(2, 4), 0);
    Checks.due("commit", x.commit(), 2);
    Checks.due("written once more, behind the first session", x.tree(2, 4), 26);
    Checks.due("to nothing", x.replace(2, 0, 0), 0);
    Checks.due("commit", x.commit(), 3);
    Checks.due("extent of nothing", x.tree(2, 4), 0);
    x.open(1);
    Checks.due("the older session has what it had", x.node(2, 3), 26);
    Checks.due("its bytes too", x.read(2, 2999), Checks.content(255, 2999));
  }

  private static void replacingAtTheEdges() {
    Checks.part("replace, the edges of sizes and seeds");
    WriteOnceDisc x = new WriteOnceDisc(100);
    x.file(0, w("F"), 10, 1);
    int[] sizes = {0, 6000};
    int[] seeds = {0, 255};
    for (int size : sizes) {
      for (int seed : seeds) {
        Checks.due("size " + size + ", seed " + seed, x.replace(1, size, seed), 0);
        Checks.due("its size", x.tree(1, 2), size);
        Checks.due("its seed", x.tree(1, 3), seed);
      }
    }
    int[] none = {-1, 6001, Integer.MIN_VALUE, Integer.MAX_VALUE};
    for (int size : none) Checks.due("size " + size, x.replace(1, size, 7), WRONG);
    int[] no = {-1, 256, Integer.MIN_VALUE, Integer.MAX_VALUE};
    for (int seed : no) Checks.due("seed " + seed, x.replace(1, 7, seed), WRONG);
    Checks.due("its size is as it was", x.tree(1, 2), 6000);
    Checks.due("its seed is as it was", x.tree(1, 3), 255);
  }

  private static void removingTheRootAlone() {
    Checks.part("remove the root, in which nothing is");
    WriteOnceDisc x = new WriteOnceDisc(100);
    Checks.due("remove", x.remove(0), WRONG);
    Checks.due("it is still there", x.tree(0, 1), 0);
    Checks.due("replace", x.replace(0, 1, 1), WRONG);
    Checks.due("rename", x.rename(0, 0, w("A")), WRONG);
    x.directory(0, w("D"));
    x.remove(1);
    Checks.due("remove, when all in it are gone", x.remove(0), WRONG);
    Checks.due("commit", x.commit(), 1);
    Checks.due("open", x.open(0), 1);
  }

  private static void removing() {
    Checks.part("remove");
    WriteOnceDisc x = new WriteOnceDisc(100);
    x.directory(0, w("D"));
    x.file(1, w("F"), 10, 1);
    Checks.due("the root", x.remove(0), WRONG);
    Checks.due("no node", x.remove(3), WRONG);
    Checks.due("-1", x.remove(-1), WRONG);
    Checks.due("a directory in which something is", x.remove(1), WRONG);
    Checks.due("the file", x.remove(2), 0);
    Checks.none("tree of what is gone", () -> x.tree(2, 0));
    Checks.due("the file again", x.remove(2), WRONG);
    Checks.due("the directory", x.remove(1), 0);
    Checks.due("in a directory that is gone", x.file(1, w("F"), 1, 1), WRONG);
    Checks.due("its name is free", x.file(0, w("D"), 1, 1), 3);
    Checks.due("replace what is gone", x.replace(2, 1, 1), WRONG);
    Checks.due("rename what is gone", x.rename(2, 0, w("X")), WRONG);
    Checks.due("commit", x.commit(), 1);
    Checks.due("two nodes", x.open(0), 2);
    WriteOnceDisc y = new WriteOnceDisc(100);
    y.defect(0);
    y.file(0, w("F"), 10, 99);
    y.commit();
    y.remove(1);
    y.directory(0, w("F"));
    Checks.due("a new directory has no size", y.tree(2, 2), 0);
    Checks.due("no seed", y.tree(2, 3), 0);
    Checks.due("no extent", y.tree(2, 4), 0);
    y.file(0, w("G"), 10, 1);
    Checks.due("a new file has no extent", y.tree(3, 4), 0);
  }

  private static void numbersAreNotGivenAgain() {
    Checks.part("numbers");
    WriteOnceDisc x = new WriteOnceDisc(200);
    for (int i = 1; i <= 100; i++) {
      Checks.due("file " + i, x.file(0, w("F"), 0, 1), i);
      Checks.due("remove " + i, x.remove(i), 0);
    }
    x.file(0, w("F"), 0, 1);
    x.commit();
    x.compact();
    Checks.due("not after commit and compact", x.file(0, w("G"), 0, 1), 102);
    Checks.due("discover", x.discover(), 1);
    Checks.due("but after discovery", x.file(0, w("G"), 0, 1), 2);
  }

  private static void renaming() {
    Checks.part("rename");
    WriteOnceDisc x = new WriteOnceDisc(100);
    x.directory(0, w("D"));
    x.file(0, w("F"), 10, 1);
    x.file(1, w("G"), 20, 2);
    Checks.due("the root", x.rename(0, 1, w("R")), WRONG);
    Checks.due("no node", x.rename(4, 0, w("R")), WRONG);
    Checks.due("into no node", x.rename(2, 4, w("R")), WRONG);
    Checks.due("into a file", x.rename(2, 3, w("R")), WRONG);
    Checks.due("into itself, a file", x.rename(2, 2, w("R")), WRONG);
    Checks.due("no name", x.rename(2, 0, 0), WRONG);
    Checks.due("a wrong name", x.rename(2, 0, w("r")), WRONG);
    Checks.due("a name that is there", x.rename(2, 1, w("G")), NAMED);
    Checks.due("a directory's name", x.rename(2, 0, w("D")), NAMED);
    Checks.due("its own name and place", x.rename(2, 0, w("F")), 0);
    Checks.due("another place", x.rename(2, 1, w("F")), 0);
    Checks.due("parent", x.tree(2, 0), 1);
    Checks.due("size", x.tree(2, 2), 10);
    Checks.due("seed", x.tree(2, 3), 1);
    Checks.due("another name", x.rename(2, 1, w("H")), 0);
    Checks.due("the old name is free", x.file(1, w("F"), 1, 1), 4);
    Checks.due("the new one isn't", x.file(1, w("H"), 1, 1), NAMED);
    x.commit();
    int extent = x.tree(3, 4);
    Checks.due("a written file", x.rename(3, 0, w("G2")), 0);
    Checks.due("its extent stays", x.tree(3, 4), extent);
    int writes = x.writes();
    Checks.due("commit", x.commit(), 2);
    Checks.due("no file is written again", x.writes() - writes, 7);
  }

  private static void renamingDirectories() {
    Checks.part("rename a directory");
    WriteOnceDisc x = new WriteOnceDisc(100);
    x.directory(0, w("A"));
    x.directory(1, w("B"));
    x.directory(2, w("C"));
    x.directory(0, w("D"));
    x.file(3, w("F"), 1, 1);
    Checks.due("into itself", x.rename(1, 1, w("X")), WRONG);
    Checks.due("into what lies in it", x.rename(1, 2, w("X")), WRONG);
    Checks.due("deeper in it", x.rename(1, 3, w("X")), WRONG);
    Checks.due("WRONG goes before NAMED", x.rename(1, 1, w("B")), WRONG);
    Checks.due("into another", x.rename(2, 4, w("X")), 0);
    Checks.due("parent", x.tree(2, 0), 4);
    Checks.due("all in it goes along", x.tree(3, 0), 2);
    Checks.due("the old one is empty", x.remove(1), 0);
    Checks.due("up again", x.rename(3, 0, w("C")), 0);
    Checks.due("now the other way round", x.rename(4, 3, w("D")), 0);
    x.commit();
    Checks.due("open", x.open(0), 5);
    Checks.due("C", x.name(1), w("C"));
    Checks.due("D, in C", x.node(2, 0), 1);
    Checks.due("F, in C", x.name(3), w("F"));
    Checks.due("X, in D", x.node(4, 0), 2);
  }

  private static void renamingTooDeep() {
    Checks.part("rename too deep");
    WriteOnceDisc x = new WriteOnceDisc(100);
    for (int i = 0; i < 6; i++) x.directory(i, w("D"));
    x.directory(0, w("E"));
    x.directory(7, w("E"));
    x.file(8, w("F"), 1, 1);
    Checks.due("two levels into the fifth", x.rename(7, 5, w("E")), WRONG);
    Checks.due("two levels into the fourth", x.rename(7, 4, w("E")), 0);
    Checks.due("one level into the sixth", x.rename(8, 6, w("E")), WRONG);
    Checks.due("too deep goes before NAMED", x.rename(8, 6, w("D")), WRONG);
    Checks.due("a file into the sixth", x.rename(9, 6, w("F")), 0);
    Checks.due("the file is the deepest", x.tree(9, 0), 6);
    Checks.due("commit", x.commit(), 1);
    Checks.due("open", x.open(0), 10);
  }

  private static void powerLost() {
    Checks.part("power was lost");
    WriteOnceDisc x = new WriteOnceDisc(100);
    x.directory(0, w("A"));
    x.file(0, w("F"), 1, 1);
    x.power(1);
    Checks.due("commit", x.commit(), LOST);
    Checks.due("directory", x.directory(0, w("B")), LOST);
    Checks.due("file", x.file(0, w("B"), 1, 1), LOST);
    Checks.due("replace", x.replace(2, 1, 1), LOST);
    Checks.due("remove", x.remove(1), LOST);
    Checks.due("rename", x.rename(1, 0, w("B")), LOST);
    Checks.due("commit", x.commit(), LOST);
    Checks.due("compact", x.compact(), LOST);
    Checks.due("directory, wrong", x.directory(-1, 0), LOST);
    Checks.due("file, wrong", x.file(-1, 0, -1, -1), LOST);
    Checks.due("replace, wrong", x.replace(-1, -1, -1), LOST);
    Checks.due("remove, wrong", x.remove(-1), LOST);
    Checks.due("rename, wrong", x.rename(-1, -1, 0), LOST);
    Checks.due("the tree can be looked at", x.tree(2, 2), 1);
    Checks.due("writes", x.writes(), 2);
    Checks.due("discover", x.discover(), 0);
    Checks.due("directory then", x.directory(0, w("B")), 1);
  }

  private static void treeWhat() {
    Checks.part("tree");
    WriteOnceDisc x = new WriteOnceDisc(100);
    x.defect(0);
    x.file(0, w("F"), 5, 9);
    Checks.none("what -1", () -> x.tree(1, -1));
    Checks.none("what 5", () -> x.tree(1, 5));
    Checks.none("what MIN", () -> x.tree(0, Integer.MIN_VALUE));
    Checks.none("node -1", () -> x.tree(-1, 0));
    Checks.none("node 2", () -> x.tree(2, 0));
    Checks.due("the root's parent", x.tree(0, 0), NONE);
    x.commit();
    Checks.due("seed of what is written", x.tree(1, 3), 9);
    Checks.due("extent", x.tree(1, 4), 1);
    x.discover();
    Checks.due("seed of what was discovered", x.tree(1, 3), NONE);
    Checks.due("size of what was discovered", x.tree(1, 2), 5);
    Checks.due("extent of what was discovered", x.tree(1, 4), 1);
    x.replace(1, 6, 200);
    Checks.due("seed of what was replaced", x.tree(1, 3), 200);
  }
}
