/** Promises 10 and 11: discovery and compacting. */
public final class DiscoveryTest {
  private static final int NONE = WriteOnceDisc.NONE, FULL = WriteOnceDisc.FULL, LOST = WriteOnceDisc.LOST;

  public static void main(String[] args) {
    theTreeOfTheLast();
    changesAreForgotten();
    theRootAloneWhenThereIsNone();
    afterLostPowerAtEveryWrite();
    anEarlierOneWhenTheLastIsSpoilt();
    thirtyNodes();
    whatIsOpenStays();
    discoveredDirectories();
    discoveredFilesAreNotWrittenAgain();
    compacting();
    compactingWritesAllAnew();
    compactingTakesTheMediumsBytes();
    compactingWithoutPower();
    compactingWithoutRoom();
    compactingFitsToTheLastSector();
    compactingLeavesDirectories();
    compactingLostAndFull();
    compactingGivesRoom();
    compactingAgainAndAgain();
    compactingOntoWhatWasThere();
    badSectorsOfAFreshMedium();
    Checks.finish();
  }

  private static long w(String name) {
    return Checks.word(name);
  }

  private static void node(WriteOnceDisc x, int k, int parent, int sort, int size, int extent) {
    Checks.due("parent of " + k, x.tree(k, 0), parent);
    Checks.due("sort of " + k, x.tree(k, 1), sort);
    Checks.due("size of " + k, x.tree(k, 2), size);
    Checks.due("seed of " + k, x.tree(k, 3), NONE);
    Checks.due("extent of " + k, x.tree(k, 4), extent);
  }

  private static void theTreeOfTheLast() {
    Checks.part("the tree of the last session");
    WriteOnceDisc x = new WriteOnceDisc(200);
    Checks.due("none", x.discover(), 0);
    x.file(0, w("Z"), 10, 1);
    x.directory(0, w("D"));
    x.file(2, w("B"), 3000, 2);
    x.file(2, w("A"), 0, 3);
    x.directory(0, w("C"));
    x.file(5, w("E"), 30, 4);
    Checks.due("commit", x.commit(), 1);
    Checks.due("discover", x.discover(), 1);
    node(x, 0, NONE, 0, 0, 0);
    node(x, 1, 0, 0, 0, 0);
    node(x, 2, 0, 0, 0, 0);
    node(x, 3, 0, 1, 10, 0);
    node(x, 4, 1, 1, 30, 3);
    node(x, 5, 2, 1, 0, 0);
    node(x, 6, 2, 1, 3000, 1);
    Checks.none("no seventh", () -> x.tree(7, 0));
    Checks.due("the next number", x.file(0, w("N"), 1, 1), 7);
    Checks.due("commit", x.commit(), 2);
    Checks.due("discover", x.discover(), 2);
    Checks.due("discover again", x.discover(), 2);
    Checks.due("a name is known", x.file(2, w("B"), 1, 1), WriteOnceDisc.NAMED);
  }

  private static void changesAreForgotten() {
    Checks.part("changes that were not committed");
    WriteOnceDisc x = new WriteOnceDisc(200);
    x.file(0, w("A"), 10, 1);
    x.commit();
    x.file(0, w("B"), 10, 1);
    x.replace(1, 20, 2);
    x.discover();
    Checks.none("B", () -> x.tree(2, 0));
    Checks.due("A's size", x.tree(1, 2), 10);
    WriteOnceDisc y = new WriteOnceDisc(200);
    y.file(0, w("A"), 10, 1);
    Checks.due("none complete", y.discover(), 0);
    Checks.none("the root alone", () -> y.tree(1, 0));
    Checks.due("its parent", y.tree(0, 0), NONE);
  }

  private static void theRootAloneWhenThereIsNone() {
    Checks.part("the root alone");
    WriteOnceDisc x = new WriteOnceDisc(100);
    x.file(0, w("A"), 10, 1);
    x.directory(0, w("D"));
    x.commit();
    x.discover();
    x.spoil((1 + 16) * 2048, 0);
    Checks.due("none is complete any more", x.discover(), 0);
    Checks.due("the root's parent", x.tree(0, 0), NONE);
    Checks.due("the root's sort", x.tree(0, 1), 0);
    Checks.none("node 1", () -> x.tree(1, 0));
    Checks.none("node 2", () -> x.tree(2, 0));
    Checks.due("numbers are given again", x.directory(0, w("A")), 1);
    Checks.due("the number of the session", x.commit(), 1);
    Checks.due("behind what is there", x.mark(1, 1), 24);
    Checks.due("discover", x.discover(), 1);
  }

  private static void thirtyNodes() {
    Checks.part("thirty nodes that were discovered");
    WriteOnceDisc x = new WriteOnceDisc(100);
    for (int i = 1; i < 30; i++) x.file(0, w("F" + i), i % 2, i);
    x.commit();
    x.remove(7);
    Checks.due("discover", x.discover(), 1);
    Checks.due("the last node", x.tree(29, 1), 1);
    Checks.none("node 30", () -> x.tree(30, 1));
    Checks.due("no more", x.file(0, w("G"), 1, 1), FULL);
    Checks.due("remove", x.remove(29), 0);
    Checks.due("one more", x.file(0, w("G"), 1, 1), 30);
  }

  /** Wherever power goes, the session before is found whole; with the last write the new one is. */
  private static void afterLostPowerAtEveryWrite() {
    Checks.part("power lost at every write");
    for (int n = 0; n <= 10; n++) {
      WriteOnceDisc x = new WriteOnceDisc(100);
      x.file(0, w("OLD"), 100, 1);
      x.commit();
      x.remove(1);
      x.directory(0, w("D"));
      x.file(2, w("NEW"), 6000, 7);
      x.power(n);
      Checks.due("commit, power for " + n, x.commit(), n < 10 ? LOST : 2);
      Checks.due("discover, power for " + n, x.discover(), n < 10 ? 1 : 2);
      Checks.due("sort of the first node", x.tree(1, 1), n < 10 ? 1 : 0);
      Checks.due("open", x.open(0), 2);
      Checks.due("the old file's byte", x.read(1, 99), Checks.content(1, 99));
      if (n < 10) Checks.due("commit then", x.commit(), 2);
      Checks.due("discover then", x.discover(), 2);
    }
  }

  private static void anEarlierOneWhenTheLastIsSpoilt() {
    Checks.part("an earlier session");
    WriteOnceDisc x = new WriteOnceDisc(200);
    x.file(0, w("A"), 10, 1);
    x.commit();
    x.file(0, w("B"), 20, 1);
    x.commit();
    x.file(0, w("C"), 30, 1);
    x.commit();
    Checks.due("three", x.discover(), 3);
    int end = (x.mark(2, 1) + 17) * 2048;
    x.spoil(end, 0);
    Checks.due("two", x.discover(), 2);
    Checks.none("C", () -> x.tree(3, 0));
    Checks.due("B", x.tree(2, 2), 20);
    x.spoil(end, 255);
    x.spoil((x.mark(1, 1) + 17) * 2048, 0);
    Checks.due("two, with the last", x.discover(), 2);
    Checks.due("C", x.tree(3, 2), 30);
    Checks.due("commit", x.commit(), 4);
  }

  private static void whatIsOpenStays() {
    Checks.part("what is open stays");
    WriteOnceDisc x = new WriteOnceDisc(200);
    x.file(0, w("A"), 10, 1);
    x.commit();
    x.remove(1);
    x.commit();
    Checks.due("open", x.open(0), 2);
    x.discover();
    Checks.due("mark reads another", x.mark(1, 3), 1);
    Checks.due("name", x.name(1), w("A"));
    x.commit();
    Checks.due("read", x.read(1, 9), Checks.content(1, 9));
  }

  private static void discoveredDirectories() {
    Checks.part("discovered directories");
    WriteOnceDisc x = new WriteOnceDisc(200);
    for (int i = 0; i < 6; i++) x.directory(i, w("D"));
    x.commit();
    x.discover();
    Checks.due("too deep", x.directory(6, w("E")), WriteOnceDisc.WRONG);
    Checks.due("deep", x.directory(5, w("E")), 7);
    Checks.due("named", x.directory(5, w("D")), WriteOnceDisc.NAMED);
    Checks.due("not empty", x.remove(5), WriteOnceDisc.WRONG);
    Checks.due("empty", x.remove(6), 0);
    Checks.due("into itself", x.rename(2, 4, w("F")), WriteOnceDisc.WRONG);
    Checks.due("rename", x.rename(5, 0, w("F")), 0);
    Checks.due("commit", x.commit(), 2);
    Checks.due("open", x.open(1), 7);
  }

  private static void discoveredFilesAreNotWrittenAgain() {
    Checks.part("discovered files are written");
    WriteOnceDisc x = new WriteOnceDisc(200);
    x.file(0, w("A"), 6000, 1);
    x.commit();
    x.discover();
    int writes = x.writes();
    x.rename(1, 0, w("B"));
    Checks.due("commit", x.commit(), 2);
    Checks.due("the session alone", x.writes() - writes, 6);
    x.open(1);
    Checks.due("its bytes", x.read(1, 5999), Checks.content(1, 5999));
    Checks.due("its sector", x.node(1, 3), 0);
  }

  private static void compacting() {
    Checks.part("compact");
    WriteOnceDisc x = new WriteOnceDisc(100);
    x.defect(0);
    x.defect(50);
    x.directory(0, w("D"));
    x.file(1, w("B"), 3000, 7);
    x.commit();
    x.file(0, w("A"), 10, 9);
    x.replace(2, 4097, 8);
    x.commit();
    x.open(0);
    Checks.due("compact", x.compact(), 1);
    Checks.none("nothing is open", () -> x.node(0, 0));
    Checks.due("B, first by its number", x.tree(2, 4), 0);
    Checks.due("A", x.tree(3, 4), 3);
    Checks.due("B keeps its seed", x.tree(2, 3), 8);
    Checks.due("the mark", x.mark(0, 0), 4 + 22);
    Checks.due("its number", x.mark(0, 2), 1);
    Checks.none("no other mark", () -> x.mark(1, 0));
    for (int s = 0; s < 100; s++) Checks.due("state " + s, x.state(s), s < 4 || s >= 20 && s <= 26 ? 1 : 0);
    Checks.due("N", x.byteAt(20 * 2048 + 80), 100);
    Checks.due("open", x.open(0), 4);
    Checks.due("B's byte", x.read(3, 4096), Checks.content(8, 4096));
    Checks.due("the next session's number", x.commit(), 2);
    Checks.due("no defects", x.mark(1, 0), 27 + 22);
    Checks.due("written files stay", x.writes(), 3 + 7 + 4 + 5 + 7 + 11 + 7);
    Checks.due("discover", x.discover(), 2);
  }

  private static void compactingWritesAllAnew() {
    Checks.part("compact writes what is not written, too");
    WriteOnceDisc x = new WriteOnceDisc(100);
    x.file(0, w("A"), 2049, 255);
    x.file(0, w("E"), 0, 255);
    Checks.due("compact", x.compact(), 1);
    Checks.due("writes", x.writes(), 8);
    Checks.due("byte", x.byteAt(2048), Checks.content(255, 2048));
    Checks.due("commit", x.commit(), 2);
    Checks.due("it is written", x.writes(), 14);
    Checks.due("extent of nothing", x.tree(2, 4), 0);
    x.open(1);
    Checks.due("sector of nothing", x.node(2, 3), 0);
  }

  private static void compactingTakesTheMediumsBytes() {
    Checks.part("compact takes the bytes that the medium has");
    WriteOnceDisc x = new WriteOnceDisc(100);
    x.file(0, w("A"), 2050, 1);
    x.file(0, w("B"), 10, 1);
    x.commit();
    x.spoil(5, 99);
    x.spoil(2049, 98);
    x.spoil(2050, 97);
    x.replace(2, 20, 50);
    Checks.due("compact", x.compact(), 1);
    Checks.due("a spoilt byte", x.byteAt(5), 99);
    Checks.due("the last byte", x.byteAt(2049), 98);
    Checks.due("behind the file", x.byteAt(2050), 0);
    Checks.due("the one that was replaced", x.byteAt(4096), 50);
    Checks.due("discover", x.discover(), 1);
    x.spoil(6, 96);
    Checks.due("compact what was discovered", x.compact(), 1);
    Checks.due("a spoilt byte", x.byteAt(5), 99);
    Checks.due("another", x.byteAt(6), 96);
    Checks.due("one that is not", x.byteAt(7), Checks.content(1, 7));
  }

  private static void compactingWithoutPower() {
    Checks.part("compact without power");
    for (int n = 0; n <= 9; n++) {
      WriteOnceDisc x = new WriteOnceDisc(100);
      x.defect(0);
      x.file(0, w("A"), 3000, 1);
      x.commit();
      x.file(0, w("B"), 1, 2);
      x.open(0);
      x.power(n);
      Checks.due("compact, power for " + n, x.compact(), n < 9 ? LOST : 1);
      if (n == 9) continue;
      Checks.due("writes", x.writes(), 9 + n + 1);
      Checks.due("the old medium stays", x.state(0), 2);
      Checks.due("its mark too", x.mark(0, 0), 24);
      Checks.due("what is open too", x.name(1), w("A"));
      Checks.due("its bytes", x.read(1, 2999), Checks.content(1, 2999));
      Checks.due("extent of A", x.tree(1, 4), 1);
      Checks.due("extent of B", x.tree(2, 4), 0);
      Checks.due("power is lost", x.commit(), LOST);
      Checks.due("nothing happens", x.compact(), LOST);
      Checks.due("writes", x.writes(), 9 + n + 1);
      Checks.due("discover", x.discover(), 1);
      Checks.due("compact then", x.compact(), 1);
      Checks.due("A's bytes", x.byteAt(2999), Checks.content(1, 2999));
    }
  }

  private static void compactingWithoutRoom() {
    Checks.part("compact without room");
    WriteOnceDisc x = new WriteOnceDisc(50);
    x.file(0, w("A"), 3000, 1);
    Checks.due("commit", x.commit(), 1);
    x.open(0);
    for (int i = 0; i < 9; i++) x.file(0, w("F" + i), 6000, i);
    Checks.due("compact", x.compact(), FULL);
    Checks.due("writes", x.writes(), 8 + 29);
    Checks.due("the old medium stays", x.mark(0, 0), 23);
    Checks.due("what is open too", x.name(1), w("A"));
    Checks.due("extent of a new one", x.tree(3, 4), 0);
    Checks.due("changes go on", x.remove(10), 0);
    Checks.due("compact then", x.compact(), 1);
    Checks.due("the last of them", x.tree(9, 4), 23);
    Checks.due("byte of A", x.byteAt(2999), Checks.content(1, 2999));
    WriteOnceDisc y = new WriteOnceDisc(40);
    for (int i = 0; i < 14; i++) y.file(0, w("F" + i), 6000, i);
    Checks.due("an extent does not fit", y.compact(), FULL);
    Checks.due("writes", y.writes(), 39);
    Checks.due("nothing on the medium", y.state(0), 0);
    Checks.due("not written", y.tree(2, 4), 0);
    Checks.due("commit writes them", y.commit(), FULL);
    Checks.due("writes", y.writes(), 78);
    Checks.due("written", y.tree(2, 4), 3);
  }

  private static void compactingFitsToTheLastSector() {
    Checks.part("compact, the last sector");
    WriteOnceDisc x = new WriteOnceDisc(40);
    for (int i = 0; i < 6; i++) x.file(0, w("F" + i), 6000, i);
    Checks.due("a session that just fits", x.compact(), 1);
    Checks.due("the mark is the last sector", x.mark(0, 0), 39);
    Checks.due("open", x.open(0), 7);
    x.file(0, w("G"), 0, 0);
    Checks.due("a file of size 0 more", x.compact(), 1);
    x.replace(7, 1, 0);
    Checks.due("a byte more", x.compact(), FULL);
    Checks.due("the old one stays", x.mark(0, 3), 8);
    x.replace(7, 0, 0);
    x.directory(0, w("D"));
    Checks.due("a directory more", x.compact(), FULL);
    Checks.due("the old one stays", x.mark(0, 3), 8);
    Checks.due("its number", x.mark(0, 2), 1);
  }

  private static void compactingLeavesDirectories() {
    Checks.part("directories when they are compacted");
    WriteOnceDisc x = new WriteOnceDisc(100);
    x.directory(0, w("D"));
    x.file(1, w("F"), 1, 1);
    Checks.due("compact", x.compact(), 1);
    for (int k = 0; k < 2; k++) {
      Checks.due("size of " + k, x.tree(k, 2), 0);
      Checks.due("seed of " + k, x.tree(k, 3), 0);
      Checks.due("extent of " + k, x.tree(k, 4), 0);
    }
    x.commit();
    Checks.due("extent of the root, committed", x.tree(0, 4), 0);
    Checks.due("extent of D, committed", x.tree(1, 4), 0);
    x.discover();
    x.compact();
    Checks.due("seed of D, discovered", x.tree(1, 3), NONE);
    Checks.due("extent of D, discovered", x.tree(1, 4), 0);
    Checks.due("seed of F, discovered", x.tree(2, 3), NONE);
  }

  private static void compactingLostAndFull() {
    Checks.part("compact, LOST and FULL");
    WriteOnceDisc x = new WriteOnceDisc(40);
    for (int i = 0; i < 15; i++) x.file(0, w("F" + i), 6000, i);
    x.power(39);
    Checks.due("no room, and power for all that has room", x.compact(), FULL);
    Checks.due("writes", x.writes(), 39);
    Checks.due("power is not lost", x.file(0, w("G"), 1, 1), 16);
    Checks.due("it was spent", x.compact(), LOST);
    Checks.due("writes", x.writes(), 40);
    Checks.due("it was lost before", x.compact(), LOST);
    Checks.due("nothing happens", x.writes(), 40);
    Checks.due("the old medium", x.state(0), 0);
  }

  private static void compactingGivesRoom() {
    Checks.part("compact gives room");
    WriteOnceDisc x = new WriteOnceDisc(64);
    x.file(0, w("A"), 6000, 1);
    Checks.due("commit", x.commit(), 1);
    Checks.due("commit", x.commit(), 2);
    Checks.due("commit", x.commit(), FULL);
    Checks.due("compact", x.compact(), 1);
    Checks.due("commit", x.commit(), 2);
    Checks.due("discover", x.discover(), 2);
  }

  private static void compactingOntoWhatWasThere() {
    Checks.part("a fresh medium is blank and has no defects");
    WriteOnceDisc x = new WriteOnceDisc(100);
    x.defect(0);
    x.defect(1);
    Checks.due("compact", x.compact(), 1);
    x.defect(0);
    x.file(0, w("A"), 2049, 1);
    Checks.due("compact", x.compact(), 1);
    Checks.due("no defect of the medium before the last", x.tree(1, 4), 0);
    x.remove(1);
    Checks.due("compact", x.compact(), 1);
    Checks.due("compact", x.compact(), 1);
    for (int s = 0; s < 16; s++) Checks.due("state " + s, x.state(s), 0);
    Checks.due("byte", x.byteAt(0), 0);
    Checks.due("spoil", x.spoil(0, 1), NONE);
  }

  /** A sector that was written on an older medium proves bad on a fresh one. */
  private static void badSectorsOfAFreshMedium() {
    Checks.part("bad sectors of a fresh medium");
    WriteOnceDisc x = new WriteOnceDisc(100);
    x.file(0, w("A"), 6000, 77);
    x.commit();
    x.remove(1);
    for (int i = 0; i < 3; i++) {
      Checks.due("compact", x.compact(), 1);
      x.defect(22);
      x.power(1);
      x.file(0, w("B"), 1, 5);
      Checks.due("commit", x.commit(), LOST);
      for (int s = 22; s < 24; s++) {
        Checks.due("state " + s, x.state(s), 2);
        Checks.due("byte of " + s, x.byteAt(s * 2048), 0);
        Checks.due("spoil " + s, x.spoil(s * 2048, 9), NONE);
        Checks.due("byte of " + s + " then", x.byteAt(s * 2048), 0);
      }
      Checks.due("a blank one", x.spoil(24 * 2048, 9), NONE);
      Checks.due("discover", x.discover(), 1);
    }
  }

  private static void compactingAgainAndAgain() {
    Checks.part("compact again and again");
    WriteOnceDisc x = new WriteOnceDisc(100);
    x.file(0, w("A"), 6000, 1);
    x.file(0, w("B"), 5000, 2);
    x.commit();
    for (int i = 0; i < 20; i++) {
      x.defect(i);
      Checks.due("compact", x.compact(), 1);
      Checks.due("B's extent", x.tree(2, 4), 3);
      Checks.due("A's last byte", x.byteAt(5999), Checks.content(1, 5999));
      Checks.due("B's last byte", x.byteAt(3 * 2048 + 4999), Checks.content(2, 4999));
      Checks.due("the front", x.state(6 + 22), 0);
      Checks.due("reading", x.mark(0, 3), 3);
    }
    x.replace(1, 1, 200);
    x.remove(2);
    Checks.due("a smaller tree", x.compact(), 1);
    Checks.due("nothing is left of what was there", x.byteAt(1), 0);
    Checks.due("state", x.state(1), 0);
    Checks.due("byte of a blank sector", x.byteAt(2048), 0);
    Checks.due("discover", x.discover(), 1);
  }
}
