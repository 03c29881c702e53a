/** Promise 9: what commit writes, byte by byte, and how it fails. */
public final class CommitTest {
  private static final int FULL = WriteOnceDisc.FULL, LOST = WriteOnceDisc.LOST;

  public static void main(String[] args) {
    head();
    recordsOfARoot();
    directoriesAndTheirOrder();
    pathTables();
    fullDirectory();
    extents();
    onlyWhatIsNew();
    badSectorsInASession();
    badMark();
    extentDoesNotFit();
    sessionDoesNotFit();
    sessionFitsToTheLastSector();
    badSectorsLeaveNoRoom();
    writtenExtentsNeedNotBeWrittenAgain();
    numbers();
    Checks.finish();
  }

  private static long w(String name) {
    return Checks.word(name);
  }

  private static void bytes(WriteOnceDisc x, String what, int address, int... want) {
    for (int i = 0; i < want.length; i++) {
      Checks.due(what + ", byte " + i, x.byteAt(address + i), want[i]);
    }
  }

  private static void head() {
    Checks.part("descriptor, end and mark");
    WriteOnceDisc x = new WriteOnceDisc(200);
    Checks.due("commit", x.commit(), 1);
    Checks.due("commit", x.commit(), 2);
    int b = 22;
    for (int s = b; s < b + 16; s++) Checks.due("state " + s, x.state(s), 0);
    for (int s = b + 16; s < b + 22; s++) Checks.due("state " + s, x.state(s), 1);
    Checks.due("state behind", x.state(b + 22), 0);
    int d = (b + 16) * 2048;
    bytes(x, "descriptor", d, 1, 'C', 'D', '0', '0', '1', 1, 0, 0);
    bytes(x, "N", d + 78, 0, 0, 200, 0, 0, 0, 0, 0, 0, 200, 0, 0);
    bytes(x, "2048", d + 126, 0, 0, 0, 8, 8, 0);
    bytes(x, "the path table's bytes", d + 132, 10, 0, 0, 0, 0, 0, 0, 10);
    bytes(x, "L and M", d + 140, 40, 0, 0, 0, 0, 0, 0, 0, 0, 0, 0, 41, 0, 0, 0, 0);
    bytes(x, "the root's record", d + 156, 34, 0, 42, 0, 0, 0, 0, 0, 0, 42, 0, 8, 0, 0, 0, 0, 8, 0);
    bytes(x, "the root's record on", d + 174, 0, 0, 0, 0, 0, 0, 0, 2, 0, 0, 1, 0, 0, 1, 1, 0, 0, 0);
    bytes(x, "end", (b + 17) * 2048, 255, 'C', 'D', '0', '0', '1', 1, 0, 0);
    bytes(x, "mark", (b + 21) * 2048, 'M', 'A', 'R', 'K', 22, 0, 0, 0, 2, 0, 0, 0, 0);
    bytes(x, "L", (b + 18) * 2048, 1, 0, 42, 0, 0, 0, 1, 0, 0, 0, 0, 0);
    bytes(x, "M", (b + 19) * 2048, 1, 0, 0, 0, 0, 42, 0, 1, 0, 0, 0, 0);
  }

  private static void recordsOfARoot() {
    Checks.part("records");
    WriteOnceDisc x = new WriteOnceDisc(100);
    x.file(0, w("AB"), 3000, 1);
    x.file(0, w("A"), 0, 1);
    x.directory(0, w("C"));
    Checks.due("commit", x.commit(), 1);
    int r = 22 * 2048;
    bytes(x, "itself", r, 34, 0, 22, 0, 0, 0, 0, 0, 0, 22, 0, 8, 0, 0, 0, 0, 8, 0);
    bytes(x, "itself on", r + 18, 0, 0, 0, 0, 0, 0, 0, 2, 0, 0, 1, 0, 0, 1, 1, 0);
    bytes(x, "its parent, itself", r + 34, 34, 0, 22, 0, 0, 0, 0, 0, 0, 22, 0, 8, 0, 0, 0, 0, 8, 0);
    bytes(x, "its parent on", r + 52, 0, 0, 0, 0, 0, 0, 0, 2, 0, 0, 1, 0, 0, 1, 1, 1);
    bytes(x, "A", r + 68, 38, 0, 0, 0, 0, 0, 0, 0, 0, 0, 0, 0, 0, 0, 0, 0, 0, 0);
    bytes(x, "A on", r + 86, 0, 0, 0, 0, 0, 0, 0, 0, 0, 0, 1, 0, 0, 1, 4, 'A', '.', ';', '1', 0);
    bytes(x, "AB", r + 106, 38, 0, 0, 0, 0, 0, 0, 0, 0, 0, 0xb8, 0x0b, 0, 0, 0, 0, 0x0b, 0xb8);
    bytes(x, "AB on", r + 124, 0, 0, 0, 0, 0, 0, 0, 0, 0, 0, 1, 0, 0, 1, 5, 'A', 'B', '.', ';', '1');
    bytes(x, "C", r + 144, 34, 0, 23, 0, 0, 0, 0, 0, 0, 23, 0, 8, 0, 0, 0, 0, 8, 0);
    bytes(x, "C on", r + 162, 0, 0, 0, 0, 0, 0, 0, 2, 0, 0, 1, 0, 0, 1, 1, 'C');
    bytes(x, "behind", r + 178, 0, 0, 0, 0);
    for (int i = 7; i < 80; i++) Checks.due("the descriptor's byte " + i, x.byteAt(18 * 2048 + i), 0);
    for (int i = 7; i < 200; i++) Checks.due("the end's byte " + i, x.byteAt(19 * 2048 + i), 0);
    for (int i = 12; i < 80; i++) Checks.due("the mark's byte " + i, x.byteAt(24 * 2048 + i), 0);
    bytes(x, "C itself", r + 2048, 34, 0, 23);
    bytes(x, "C's parent", r + 2048 + 34, 34, 0, 22);
    bytes(x, "behind in C", r + 2048 + 68, 0, 0);
  }

  /** Names that a file and a directory bear so that . and shorter ones decide. */
  private static void directoriesAndTheirOrder() {
    Checks.part("the order in a directory");
    WriteOnceDisc x = new WriteOnceDisc(100);
    String[] names = {"_", "Z", "A_", "AA", "A9", "A", "ABCDEFGH", "ABCDEFG", "AB", "0", "9"};
    for (int i = 0; i < names.length; i++) {
      if (i % 2 == 0) x.file(0, w(names[i]), 1, 1);
      else x.directory(0, w(names[i]));
    }
    x.commit();
    Checks.due("open", x.open(0), names.length + 1);
    String[] due = {"0", "9", "A", "A9", "AA", "AB", "ABCDEFG", "ABCDEFGH", "A_", "Z", "_"};
    for (int i = 0; i < due.length; i++) Checks.due("name " + due[i], x.name(i + 1), w(due[i]));
    WriteOnceDisc y = new WriteOnceDisc(100);
    y.directory(0, w("A0"));
    y.file(0, w("A"), 1, 1);
    y.directory(0, w("B"));
    y.directory(0, w("B0"));
    y.commit();
    Checks.due("open", y.open(0), 5);
    Checks.due("A.;1 is ahead of A0", y.name(1), w("A"));
    Checks.due("A0", y.name(2), w("A0"));
    Checks.due("B is ahead of B0", y.name(3), w("B"));
  }

  private static void pathTables() {
    Checks.part("the path table");
    WriteOnceDisc x = new WriteOnceDisc(100);
    x.directory(0, w("Y"));
    x.directory(0, w("X"));
    x.directory(1, w("A"));
    x.directory(2, w("B1"));
    x.directory(4, w("DEEP"));
    x.directory(2, w("ABC"));
    Checks.due("commit", x.commit(), 1);
    int l = 18 * 2048;
    int m = 19 * 2048;
    Checks.due("its bytes", Checks.low4(x, 16 * 2048 + 132), 10 + 10 + 10 + 12 + 10 + 10 + 12);
    Checks.due("its bytes, high", Checks.high4(x, 16 * 2048 + 136), 74);
    bytes(x, "L root", l, 1, 0, 20, 0, 0, 0, 1, 0, 0, 0);
    bytes(x, "L X", l + 10, 1, 0, 21, 0, 0, 0, 1, 0, 'X', 0);
    bytes(x, "L Y", l + 20, 1, 0, 22, 0, 0, 0, 1, 0, 'Y', 0);
    bytes(x, "L X/ABC", l + 30, 3, 0, 23, 0, 0, 0, 2, 0, 'A', 'B', 'C', 0);
    bytes(x, "L X/B1", l + 42, 2, 0, 24, 0, 0, 0, 2, 0, 'B', '1');
    bytes(x, "L Y/A", l + 52, 1, 0, 25, 0, 0, 0, 3, 0, 'A', 0);
    bytes(x, "L X/B1/DEEP", l + 62, 4, 0, 26, 0, 0, 0, 5, 0, 'D', 'E', 'E', 'P');
    bytes(x, "L behind", l + 74, 0, 0);
    bytes(x, "M X/ABC", m + 30, 3, 0, 0, 0, 0, 23, 0, 2, 'A', 'B', 'C', 0);
    bytes(x, "M X/B1/DEEP", m + 62, 4, 0, 0, 0, 0, 26, 0, 5, 'D', 'E', 'E', 'P');
    bytes(x, "the directory X/B1", 24 * 2048, 34, 0, 24);
    bytes(x, "its parent X", 24 * 2048 + 34, 34, 0, 21);
    bytes(x, "in it DEEP", 24 * 2048 + 68, 38, 0, 26);
    bytes(x, "mark", 27 * 2048, 'M', 'A', 'R', 'K', 0, 0, 0, 0, 1, 0, 0, 0);
  }

  private static void fullDirectory() {
    Checks.part("thirty nodes with the longest names");
    WriteOnceDisc x = new WriteOnceDisc(200);
    for (int i = 10; i < 39; i++) x.file(0, w("LONGES" + i), 1, i);
    Checks.due("commit", x.commit(), 1);
    Checks.due("one sector", x.mark(0, 0), 29 + 21);
    Checks.due("open", x.open(0), 30);
    Checks.due("the last", x.name(29), w("LONGES38"));
    Checks.due("its byte", x.read(29, 0), 38);
    bytes(x, "its record", 49 * 2048 + 68 + 28 * 44, 44, 0, 28);
    WriteOnceDisc y = new WriteOnceDisc(200);
    for (int i = 10; i < 39; i++) y.directory(0, w("LONGES" + i));
    Checks.due("commit", y.commit(), 1);
    Checks.due("thirty directories", y.mark(0, 0), 50);
    Checks.due("open", y.open(0), 30);
    Checks.due("bytes of the path table", Checks.low4(y, 16 * 2048 + 132), 10 + 29 * 16);
  }

  private static void extents() {
    Checks.part("extents");
    int[] sizes = {1, 2047, 2048, 2049, 4096, 4097, 6000};
    int[] sectors = {1, 1, 1, 2, 2, 3, 3};
    WriteOnceDisc x = new WriteOnceDisc(100);
    for (int i = 0; i < sizes.length; i++) x.file(0, w("F" + (9 - i)), sizes[i], 30 * i);
    Checks.due("commit", x.commit(), 1);
    int at = 0;
    for (int i = 0; i < sizes.length; i++) {
      Checks.due("extent " + i + ", by their numbers", x.tree(i + 1, 4), at);
      Checks.due("first byte", x.byteAt(at * 2048), Checks.content(30 * i, 0));
      int last = at * 2048 + sizes[i] - 1;
      Checks.due("last byte", x.byteAt(last), Checks.content(30 * i, sizes[i] - 1));
      if (sizes[i] % 2048 != 0) Checks.due("behind it", x.byteAt(last + 1), 0);
      at += sectors[i];
    }
    Checks.due("the base is the front", x.mark(0, 1), at);
    WriteOnceDisc y = new WriteOnceDisc(100);
    y.defect(2);
    y.defect(4);
    y.file(0, w("F"), 6000, 5);
    Checks.due("commit", y.commit(), 1);
    Checks.due("begun anew behind the last bad one", y.tree(1, 4), 5);
    int[] states = {1, 1, 2, 1, 2, 1, 1, 1, 0};
    for (int s = 0; s < states.length; s++) Checks.due("state " + s, y.state(s), states[s]);
    Checks.due("begun anew from its first byte", y.byteAt(3 * 2048), 5);
    Checks.due("and once more", y.byteAt(5 * 2048), 5);
    Checks.due("its third sector", y.byteAt(7 * 2048), Checks.content(5, 4096));
  }

  private static void onlyWhatIsNew() {
    Checks.part("only what is new is written");
    WriteOnceDisc x = new WriteOnceDisc(200);
    x.file(0, w("A"), 100, 1);
    x.file(0, w("B"), 100, 2);
    Checks.due("commit", x.commit(), 1);
    Checks.due("writes", x.writes(), 8);
    Checks.due("commit", x.commit(), 2);
    Checks.due("the session alone", x.writes(), 14);
    x.replace(1, 100, 3);
    x.file(0, w("C"), 0, 2);
    Checks.due("commit", x.commit(), 3);
    Checks.due("and one file", x.writes(), 21);
    Checks.due("A", x.tree(1, 4), 46);
    Checks.due("B", x.tree(2, 4), 1);
    x.open(2);
    Checks.due("B in the session", x.node(2, 3), 1);
    Checks.due("A in the session", x.read(1, 0), 3);
    x.open(1);
    Checks.due("A in the older one", x.read(1, 0), 1);
  }

  private static void badSectorsInASession() {
    Checks.part("bad sectors in a session");
    for (int bad = 16; bad <= 22; bad++) {
      WriteOnceDisc x = new WriteOnceDisc(100);
      x.directory(0, w("D"));
      x.defect(bad);
      Checks.due("commit", x.commit(), 1);
      Checks.due("the only mark's base", x.mark(0, 1), bad + 1);
      Checks.due("its number", x.mark(0, 2), 1);
      Checks.due("its sector", x.mark(0, 0), bad + 1 + 22);
      Checks.due("it reads", x.mark(0, 3), 2);
      Checks.due("writes", x.writes(), bad - 15 + 7);
      Checks.due("the bad one", x.state(bad), 2);
      Checks.due("behind it", x.state(bad + 1), 0);
    }
    WriteOnceDisc x = new WriteOnceDisc(100);
    x.defect(3);
    x.defect(15);
    Checks.due("defects where nothing is written", x.commit(), 1);
    Checks.due("do nothing", x.mark(0, 1), 0);
  }

  private static void badMark() {
    Checks.part("a bad mark");
    WriteOnceDisc x = new WriteOnceDisc(43);
    x.defect(21);
    Checks.due("no room for another session", x.commit(), FULL);
    Checks.none("no mark", () -> x.mark(0, 0));
    Checks.due("nothing complete", x.discover(), 0);
    WriteOnceDisc y = new WriteOnceDisc(100);
    y.power(5);
    Checks.due("power goes in the mark", y.commit(), LOST);
    Checks.due("nothing complete", y.discover(), 0);
    Checks.due("number", y.commit(), 1);
    Checks.due("base", y.mark(0, 1), 22);
  }

  private static void extentDoesNotFit() {
    Checks.part("an extent that does not fit");
    WriteOnceDisc x = new WriteOnceDisc(40);
    for (int i = 0; i < 14; i++) x.file(0, w("F" + i), 6000, i);
    Checks.due("commit", x.commit(), FULL);
    Checks.due("whole ones alone are written", x.writes(), 39);
    Checks.due("state(38)", x.state(38), 1);
    Checks.due("state(39)", x.state(39), 0);
    Checks.due("extent of the last that fits", x.tree(13, 4), 36);
    Checks.due("extent of the one that doesn't", x.tree(14, 4), 0);
    Checks.due("changes go on", x.replace(14, 1, 1), 0);
    Checks.due("commit", x.commit(), FULL);
    Checks.due("the last sector too", x.tree(14, 4), 39);
    Checks.due("writes", x.writes(), 40);
    Checks.due("discover", x.discover(), 0);
  }

  private static void sessionDoesNotFit() {
    Checks.part("a session that does not fit");
    WriteOnceDisc x = new WriteOnceDisc(40);
    for (int i = 0; i < 6; i++) x.file(0, w("F" + i), 6000, i);
    x.file(0, w("G"), 1, 1);
    Checks.due("commit", x.commit(), FULL);
    Checks.due("writes", x.writes(), 19);
    Checks.due("nothing of it is written", x.state(35), 0);
    Checks.due("commit again", x.commit(), FULL);
    Checks.due("writes", x.writes(), 19);
    Checks.none("no mark", () -> x.mark(0, 0));
  }

  private static void sessionFitsToTheLastSector() {
    Checks.part("a session that just fits");
    WriteOnceDisc x = new WriteOnceDisc(40);
    for (int i = 0; i < 6; i++) x.file(0, w("F" + i), 6000, i);
    Checks.due("commit", x.commit(), 1);
    Checks.due("the mark is the last sector", x.mark(0, 0), 39);
    Checks.due("open", x.open(0), 7);
    WriteOnceDisc y = new WriteOnceDisc(40);
    for (int i = 0; i < 6; i++) y.file(0, w("F" + i), 6000, i);
    y.directory(0, w("D"));
    Checks.due("with one directory more", y.commit(), FULL);
  }

  private static void badSectorsLeaveNoRoom() {
    Checks.part("bad sectors leave no room");
    WriteOnceDisc x = new WriteOnceDisc(40);
    x.defect(18);
    Checks.due("commit", x.commit(), FULL);
    Checks.due("writes", x.writes(), 3);
    WriteOnceDisc y = new WriteOnceDisc(40);
    y.file(0, w("F"), 6000, 1);
    for (int s = 0; s < 40; s += 3) y.defect(s + 2);
    Checks.due("commit", y.commit(), FULL);
    Checks.due("writes", y.writes(), 39);
    Checks.due("extent", y.tree(1, 4), 0);
    WriteOnceDisc z = new WriteOnceDisc(40);
    z.file(0, w("F"), 6000, 1);
    for (int s = 0; s < 40; s++) z.defect(s);
    Checks.due("all are bad", z.commit(), FULL);
    Checks.due("writes", z.writes(), 38);
  }

  private static void writtenExtentsNeedNotBeWrittenAgain() {
    Checks.part("written extents");
    WriteOnceDisc x = new WriteOnceDisc(60);
    x.file(0, w("A"), 100, 1);
    for (int i = 0; i < 13; i++) x.file(0, w("F" + i), 6000, i);
    Checks.due("commit", x.commit(), FULL);
    Checks.due("writes", x.writes(), 40);
    for (int i = 2; i <= 14; i++) x.remove(i);
    Checks.due("no room for a session yet", x.commit(), FULL);
    Checks.due("nothing is written again", x.writes(), 40);
    Checks.due("extent", x.tree(1, 4), 0);
    WriteOnceDisc y = new WriteOnceDisc(45);
    y.file(0, w("A"), 100, 1);
    for (int i = 0; i < 20; i++) y.directory(0, w("D" + i));
    y.file(0, w("B"), 6000, 9);
    y.replace(22, 6000, 8);
    Checks.due("a session of 42 sectors", y.commit(), FULL);
    int writes = y.writes();
    for (int i = 2; i <= 21; i++) y.remove(i);
    Checks.due("a session of 22 sectors", y.commit(), 1);
    Checks.due("the session alone is written", y.writes() - writes, 6);
    Checks.due("open", y.open(0), 3);
    Checks.due("B", y.read(2, 5999), Checks.content(8, 5999));
  }

  private static void numbers() {
    Checks.part("numbers of sessions");
    WriteOnceDisc x = new WriteOnceDisc(200);
    Checks.due("commit", x.commit(), 1);
    Checks.due("commit", x.commit(), 2);
    x.spoil((22 + 16) * 2048, 9);
    Checks.due("one above what was completed since", x.commit(), 3);
    Checks.due("discover", x.discover(), 2);
    Checks.due("one above the last complete one's", x.commit(), 4);
    x.spoil(16 * 2048, 9);
    for (int b = 44; b <= 66; b += 22) x.spoil((b + 16) * 2048, 9);
    Checks.due("discover", x.discover(), 0);
    Checks.due("one above none", x.commit(), 1);
    Checks.spoilLow4(x, (88 + 21) * 2048 + 8, 1000);
    Checks.due("the mark's number is not looked at without discovery", x.commit(), 2);
    Checks.due("discover", x.discover(), 2);
    Checks.due("the last is told by its mark's sector", x.commit(), 3);
    Checks.due("its number", x.mark(6, 2), 3);
    Checks.spoilLow4(x, x.mark(6, 0) * 2048 + 8, 70000);
    Checks.due("discover", x.discover(), 3);
    Checks.due("one above", x.commit(), 70001);
    Checks.due("its number on the medium", Checks.low4(x, x.mark(7, 0) * 2048 + 8), 70001);
  }
}
