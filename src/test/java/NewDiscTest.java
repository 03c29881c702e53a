/** Promise 1: what a new object is. */
public final class NewDiscTest {
  public static void main(String[] args) {
    sizes();
    blank();
    rootAlone();
    nothingOpened();
    separate();
    Checks.finish();
  }

  private static void sizes() {
    Checks.part("sizes");
    int[] asked = {40, 41, 100, 200, 39, 201, 0, -1, Integer.MIN_VALUE, Integer.MAX_VALUE};
    int[] sectors = {40, 41, 100, 200, 100, 100, 100, 100, 100, 100};
    for (int i = 0; i < asked.length; i++) {
      WriteOnceDisc x = new WriteOnceDisc(asked[i]);
      Checks.due("state of the last sector, n " + asked[i], x.state(sectors[i] - 1), 0);
      Checks.due("state behind the last sector, n " + asked[i], x.state(sectors[i]), WriteOnceDisc.NONE);
      Checks.due("last byte, n " + asked[i], x.byteAt(sectors[i] * Checks.SECTOR - 1), 0);
      Checks.due("byte behind the last, n " + asked[i], x.byteAt(sectors[i] * Checks.SECTOR), WriteOnceDisc.NONE);
    }
  }

  private static void blank() {
    Checks.part("blank, no defects, power for ever");
    WriteOnceDisc x = new WriteOnceDisc(40);
    for (int s = 0; s < 40; s++) {
      Checks.due("state " + s, x.state(s), 0);
      Checks.due("byte of " + s, x.byteAt(s * Checks.SECTOR + s), 0);
    }
    Checks.due("writes", x.writes(), 0);
    Checks.none("mark(0, 0)", () -> x.mark(0, 0));
    Checks.due("discover", x.discover(), 0);
    Checks.due("file", x.file(0, Checks.word("A"), 6000, 0), 1);
    Checks.due("replace", x.replace(1, 0, 0), 0);
    Checks.due("commit", x.commit(), 1);
    for (int s = 0; s < 40; s++) Checks.due("state " + s + " then", x.state(s), s >= 16 && s <= 21 ? 1 : 0);
  }

  private static void rootAlone() {
    Checks.part("the root alone");
    WriteOnceDisc x = new WriteOnceDisc(100);
    Checks.due("parent", x.tree(0, 0), WriteOnceDisc.NONE);
    Checks.due("sort", x.tree(0, 1), 0);
    Checks.due("size", x.tree(0, 2), 0);
    Checks.due("seed", x.tree(0, 3), 0);
    Checks.due("extent", x.tree(0, 4), 0);
    Checks.none("tree(1, 0)", () -> x.tree(1, 0));
    Checks.due("first number", x.directory(0, Checks.word("A")), 1);
  }

  private static void nothingOpened() {
    Checks.part("nothing opened");
    WriteOnceDisc x = new WriteOnceDisc(100);
    Checks.none("node(0, 0)", () -> x.node(0, 0));
    Checks.none("name(0)", () -> x.name(0));
    Checks.none("read(0, 0)", () -> x.read(0, 0));
    Checks.due("open(0)", x.open(0), -1000000);
  }

  private static void separate() {
    Checks.part("objects are separate");
    WriteOnceDisc x = new WriteOnceDisc(100);
    WriteOnceDisc y = new WriteOnceDisc(100);
    x.power(0);
    x.defect(16);
    x.directory(0, Checks.word("A"));
    Checks.due("commit of the one", x.commit(), WriteOnceDisc.LOST);
    Checks.due("writes of the other", y.writes(), 0);
    Checks.due("commit of the other", y.commit(), 1);
    Checks.none("tree of the other", () -> y.tree(1, 0));
  }
}
