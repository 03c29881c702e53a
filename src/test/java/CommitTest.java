/** Promise 9: what commit writes, byte by byte, and how it fails. */
public final class CommitTest {
  private static final int FULL = WriteOnceDisc.FULL, LOST = WriteOnceDisc.LOST;

  public static void main(String[] args) {
    head();
    recordsOfARoot();
    bytesThatSayNothing();
    directoriesAndTheirOrder();
    pathTables();
    everyLengthOfAName();
    parentsInThePathTable();
    fullDirectory();
    everyByteOfAFile();
    extents();
    extentsBegunAnew();
    filesOfSizeZero();
    onlyWhatIsNew();
    theOrderOfWrites();
    theFront();
    whatIsNotBlankStays();
    badSectorsInASession();
    sessionsMadeAnewTwice();
    badMark();
    extentDoesNotFit();
    extentFitsToTheLastSector();
    sessionDoesNotFit();
    sessionFitsToTheLastSector();
    badSectorsLeaveNoRoom();
    writtenExtentsNeedNotBeWrittenAgain();
    numbers();
    theLargestNumber();
    lostGoesBeforeFull();
    Checks.finish();
  }

  private static long w(String name) {
    return Checks.word(name);
  }

  private static void bytes(WriteOnceDisc x, String what, int address, int... want) {
    for (int i = 0; i < want.length; i++) {
      Checks.due(what + ", byte " + i, x.byteAt(address + i), want[i]);
    }
  }

  private static void head() {
    Checks.part("descriptor, end and mark");
    WriteOnceDisc x = new WriteOnceDisc(200);
    Checks.due("commit", x.commit(), 1);
    Checks.due("commit", x.commit(), 2);
    int b = 22;
    for (int s = b; s < b + 16; s++) Checks.due("state " + s, x.state(s), 0);
    for (int s = b + 16; s < b + 22; s++) Checks.due("state " + s, x.state(s), 1);
    Checks.due("state behind", x.state(b + 22), 0);
    int d = (b + 16) * 2048;
    bytes(x, "descriptor", d, 1, 'C', 'D', '0', '0', '1', 1, 0, 0);
    bytes(x, "N", d + 78, 0, 0, 200, 0, 0, 0, 0, 0, 0, 200, 0, 0);
    bytes(x, "2048", d + 126, 0, 0, 0, 8, 8, 0);
    bytes(x, "the path table's bytes", d + 132, 10, 0, 0, 0, 0, 0, 0, 10);
    bytes(x, "L and M", d + 140, 40, 0, 0, 0, 0, 0, 0, 0, 0, 0, 0, 41, 0, 0, 0, 0);
    bytes(x, "the root's record", d + 156, 34, 0, 42, 0, 0, 0, 0, 0, 0, 42, 0, 8, 0, 0, 0, 0, 8, 0);
    bytes(x, "the root's record on", d + 174, 0, 0, 0, 0, 0, 0, 0, 2, 0, 0, 1, 0, 0, 1, 1, 0, 0, 0);
    bytes(x, "end", (b + 17) * 2048, 255, 'C', 'D', '0', '0', '1', 1, 0, 0);
    bytes(x, "mark", (b + 21) * 2048, 'M', 'A', 'R', 'K', 22, 0, 0, 0, 2, 0, 0, 0, 0);
    bytes(x, "L", (b + 18) * 2048, 1, 0, 42, 0, 0, 0, 1, 0, 0, 0, 0, 0);
    bytes(x, "M", (b + 19) * 2048, 1, 0, 0, 0, 0, 42, 0, 1, 0, 0, 0, 0);
  }

  private static WriteOnceDisc threeInTheRoot() {
    WriteOnceDisc x = new WriteOnceDisc(100);
    x.file(0, w("AB"), 3000, 1);
    x.file(0, w("A"), 0, 1);
    x.directory(0, w("C"));
    Checks.due("commit", x.commit(), 1);
    return x;
  }

  private static void recordsOfARoot() {
    Checks.part("records");
    WriteOnceDisc x = threeInTheRoot();
    int r = 22 * 2048;
    bytes(x, "itself", r, 34, 0, 22, 0, 0, 0, 0, 0, 0, 22, 0, 8, 0, 0, 0, 0, 8, 0);
    bytes(x, "itself on", r + 18, 0, 0, 0, 0, 0, 0, 0, 2, 0, 0, 1, 0, 0, 1, 1, 0);
    bytes(x, "its parent, itself", r + 34, 34, 0, 22, 0, 0, 0, 0, 0, 0, 22, 0, 8, 0, 0, 0, 0, 8, 0);
    bytes(x, "its parent on", r + 52, 0, 0, 0, 0, 0, 0, 0, 2, 0, 0, 1, 0, 0, 1, 1, 1);
    bytes(x, "A", r + 68, 38, 0, 0, 0, 0, 0, 0, 0, 0, 0, 0, 0, 0, 0, 0, 0, 0, 0);
    bytes(x, "A on", r + 86, 0, 0, 0, 0, 0, 0, 0, 0, 0, 0, 1, 0, 0, 1, 4, 'A', '.', ';', '1', 0);
    bytes(x, "AB", r + 106, 38, 0, 0, 0, 0, 0, 0, 0, 0, 0, 0xb8, 0x0b, 0, 0, 0, 0, 0x0b, 0xb8);
    bytes(x, "AB on", r + 124, 0, 0, 0, 0, 0, 0, 0, 0, 0, 0, 1, 0, 0, 1, 5, 'A', 'B', '.', ';', '1');
    bytes(x, "C", r + 144, 34, 0, 23, 0, 0, 0, 0, 0, 0, 23, 0, 8, 0, 0, 0, 0, 8, 0);
    bytes(x, "C on", r + 162, 0, 0, 0, 0, 0, 0, 0, 2, 0, 0, 1, 0, 0, 1, 1, 'C');
    bytes(x, "behind", r + 178, 0, 0, 0, 0);
    bytes(x, "C itself", r + 2048, 34, 0, 23);
    bytes(x, "C's parent", r + 2048 + 34, 34, 0, 22);
    bytes(x, "behind in C", r + 2048 + 68, 0, 0);
  }

  private static void bytesThatSayNothing() {
    Checks.part("bytes between and behind what is said");
    WriteOnceDisc x = threeInTheRoot();
    for (int i = 7; i < 80; i++) Checks.due("the descriptor's byte " + i, x.byteAt(18 * 2048 + i), 0);
    for (int i = 190; i < 250; i++) Checks.due("the descriptor's byte " + i, x.byteAt(18 * 2048 + i), 0);
    for (int i = 7; i < 200; i++) Checks.due("the end's byte " + i, x.byteAt(19 * 2048 + i), 0);
    for (int i = 12; i < 80; i++) Checks.due("the mark's byte " + i, x.byteAt(24 * 2048 + i), 0);
    for (int s = 18; s <= 24; s++) Checks.due("the last byte of " + s, x.byteAt(s * 2048 + 2047), 0);
  }

  /** Names that a file and a directory bear so that . and shorter ones decide. */
  private static void directoriesAndTheirOrder() {
    Checks.part("the order in a directory");
    WriteOnceDisc x = new WriteOnceDisc(100);
    String[] names = {"_", "Z", "A_", "AA", "A9", "A", "ABCDEFGH", "ABCDEFG", "AB", "0", "9"};
    for (int i = 0; i < names.length; i++) {
      if (i % 2 == 0) x.file(0, w(names[i]), 1, 1);
      else x.directory(0, w(names[i]));
    }
    x.commit();
    Checks.due("open", x.open(0), names.length + 1);
    String[] due = {"0", "9", "A", "A9", "AA", "AB", "ABCDEFG", "ABCDEFGH", "A_", "Z", "_"};
    for (int i = 0; i < due.length; i++) Checks.due("name " + due[i], x.name(i + 1), w(due[i]));
    WriteOnceDisc y = new WriteOnceDisc(100);
    y.directory(0, w("A0"));
    y.file(0, w("A"), 1, 1);
    y.directory(0, w("B"));
    y.directory(0, w("B0"));
    y.commit();
    Checks.due("open", y.open(0), 5);
    Checks.due("A.;1 is ahead of A0", y.name(1), w("A"));
    Checks.due("A0", y.name(2), w("A0"));
    Checks.due("B is ahead of B0", y.name(3), w("B"));
  }

  private static void pathTables() {
    Checks.part("the path table");
    WriteOnceDisc x = new WriteOnceDisc(100);
    x.directory(0, w("Y"));
    x.directory(0, w("X"));
    x.directory(1, w("A"));
    x.directory(2, w("B1"));
    x.directory(4, w("DEEP"));
    x.directory(2, w("ABC"));
    Checks.due("commit", x.commit(), 1);
    int l = 18 * 2048;
    int m = 19 * 2048;
    Checks.due("its bytes", Checks.low4(x, 16 * 2048 + 132), 10 + 10 + 10 + 12 + 10 + 10 + 12);
    Checks.due("its bytes, high", Checks.high4(x, 16 * 2048 + 136), 74);
    bytes(x, "L root", l, 1, 0, 20, 0, 0, 0, 1, 0, 0, 0);
    bytes(x, "L X", l + 10, 1, 0, 21, 0, 0, 0, 1, 0, 'X', 0);
    bytes(x, "L Y", l + 20, 1, 0, 22, 0, 0, 0, 1, 0, 'Y', 0);
    bytes(x, "L X/ABC", l + 30, 3, 0, 23, 0, 0, 0, 2, 0, 'A', 'B', 'C', 0);
    bytes(x, "L X/B1", l + 42, 2, 0, 24, 0, 0, 0, 2, 0, 'B', '1');
    bytes(x, "L Y/A", l + 52, 1, 0, 25, 0, 0, 0, 3, 0, 'A', 0);
    bytes(x, "L X/B1/DEEP", l + 62, 4, 0, 26, 0, 0, 0, 5, 0, 'D', 'E', 'E', 'P');
    bytes(x, "L behind", l + 74, 0, 0);
    bytes(x, "M X/ABC", m + 30, 3, 0, 0, 0, 0, 23, 0, 2, 'A', 'B', 'C', 0);
    bytes(x, "M X/B1/DEEP", m + 62, 4, 0, 0, 0, 0, 26, 0, 5, 'D', 'E', 'E', 'P');
    bytes(x, "the directory X/B1", 24 * 2048, 34, 0, 24);
    bytes(x, "its parent X", 24 * 2048 + 34, 34, 0, 21);
    bytes(x, "in it DEEP", 24 * 2048 + 68, 38, 0, 26);
    bytes(x, "mark", 27 * 2048, 'M', 'A', 'R', 'K', 0, 0, 0, 0, 1, 0, 0, 0);
  }

  /** Names of one to eight letters: what is odd is filled up with a byte 0. */
  private static void everyLengthOfAName() {
    Checks.part("every length of a name");
    String letters = "ABCDEFGH";
    int[] ofFiles = {38, 38, 40, 40, 42, 42, 44, 44};
    int[] ofDirectories = {34, 36, 36, 38, 38, 40, 40, 42};
    int[] inTheTable = {10, 10, 12, 12, 14, 14, 16, 16};
    for (int sort = 0; sort < 2; sort++) {
      WriteOnceDisc x = new WriteOnceDisc(100);
      for (int n = 1; n <= 8; n++) {
        long name = w(letters.substring(0, n));
        Checks.due("node " + n, sort == 0 ? x.directory(0, name) : x.file(0, name, 0, 0), n);
      }
      Checks.due("commit", x.commit(), 1);
      int at = 20 * 2048 + 68;
      int entry = 18 * 2048 + 10;
      for (int n = 1; n <= 8; n++) {
        String identifier = letters.substring(0, n) + (sort == 0 ? "" : ".;1");
        int length = sort == 0 ? ofDirectories[n - 1] : ofFiles[n - 1];
        Checks.due("bytes of record " + n, x.byteAt(at), length);
        Checks.due("bytes of identifier " + n, x.byteAt(at + 32), identifier.length());
        text(x, "identifier " + n, at + 33, identifier);
        if (33 + identifier.length() < length) Checks.due("the byte behind it", x.byteAt(at + length - 1), 0);
        at += length;
        if (sort == 0) {
          Checks.due("bytes of identifier " + n + " in L", x.byteAt(entry), n);
          text(x, "identifier " + n + " in L", entry + 8, identifier);
          if (n % 2 == 1) Checks.due("the byte behind it", x.byteAt(entry + 8 + n), 0);
          entry += inTheTable[n - 1];
        }
      }
      Checks.due("behind the last", x.byteAt(at), 0);
      Checks.due("bytes of the path table", x.byteAt(16 * 2048 + 132), sort == 0 ? 10 + 104 : 10);
      Checks.due("it reads", x.mark(0, 3), 9);
    }
  }

  private static void text(WriteOnceDisc x, String what, int address, String text) {
    for (int i = 0; i < text.length(); i++) Checks.due(what + ", byte " + i, x.byteAt(address + i), text.charAt(i));
  }

  private static void parentsInThePathTable() {
    Checks.part("parents in the path table");
    WriteOnceDisc x = new WriteOnceDisc(100);
    for (int i = 0; i < 6; i++) x.directory(i, w("D"));
    x.directory(0, w("E"));
    Checks.due("commit", x.commit(), 1);
    // the root, D, E, and then one below the other
    int[] parents = {1, 1, 1, 2, 4, 5, 6, 7};
    for (int i = 0; i < 8; i++) {
      bytes(x, "L, entry " + i, 18 * 2048 + 10 * i, 1, 0, 20 + i, 0, 0, 0, parents[i], 0);
      bytes(x, "M, entry " + i, 19 * 2048 + 10 * i, 1, 0, 0, 0, 0, 20 + i, 0, parents[i]);
    }
    bytes(x, "L behind", 18 * 2048 + 80, 0, 0);
    bytes(x, "M behind", 19 * 2048 + 80, 0, 0);
  }

  private static void fullDirectory() {
    Checks.part("thirty nodes with the longest names");
    WriteOnceDisc x = new WriteOnceDisc(200);
    for (int i = 10; i < 39; i++) x.file(0, w("LONGES" + i), 1, i);
    Checks.due("commit", x.commit(), 1);
    Checks.due("one sector", x.mark(0, 0), 29 + 21);
    Checks.due("open", x.open(0), 30);
    Checks.due("the last", x.name(29), w("LONGES38"));
    Checks.due("its byte", x.read(29, 0), 38);
    bytes(x, "its record", 49 * 2048 + 68 + 28 * 44, 44, 0, 28);
    WriteOnceDisc y = new WriteOnceDisc(200);
    for (int i = 10; i < 39; i++) y.directory(0, w("LONGES" + i));
    Checks.due("commit", y.commit(), 1);
    Checks.due("thirty directories", y.mark(0, 0), 50);
    Checks.due("open", y.open(0), 30);
    Checks.due("bytes of the path table", Checks.low4(y, 16 * 2048 + 132), 10 + 29 * 16);
  }

  private static void extents() {
    Checks.part("extents");
    int[] sizes = {1, 2047, 2048, 2049, 4096, 4097, 6000};
    int[] sectors = {1, 1, 1, 2, 2, 3, 3};
    WriteOnceDisc x = new WriteOnceDisc(100);
    for (int i = 0; i < sizes.length; i++) x.file(0, w("F" + (9 - i)), sizes[i], 30 * i);
    Checks.due("commit", x.commit(), 1);
    int at = 0;
    for (int i = 0; i < sizes.length; i++) {
      Checks.due("extent " + i + ", by their numbers", x.tree(i + 1, 4), at);
      Checks.due("first byte", x.byteAt(at * 2048), Checks.content(30 * i, 0));
      int last = at * 2048 + sizes[i] - 1;
      Checks.due("last byte", x.byteAt(last), Checks.content(30 * i, sizes[i] - 1));
      if (sizes[i] % 2048 != 0) Checks.due("behind it", x.byteAt(last + 1), 0);
      at += sectors[i];
    }
    Checks.due("the base is the front", x.mark(0, 1), at);
    WriteOnceDisc y = new WriteOnceDisc(100);
    y.defect(2);
    y.defect(4);
    y.file(0, w("F"), 6000, 5);
    Checks.due("commit", y.commit(), 1);
    Checks.due("begun anew behind the last bad one", y.tree(1, 4), 5);
    int[] states = {1, 1, 2, 1, 2, 1, 1, 1, 0};
    for (int s = 0; s < states.length; s++) Checks.due("state " + s, y.state(s), states[s]);
    Checks.due("begun anew from its first byte", y.byteAt(3 * 2048), 5);
    Checks.due("and once more", y.byteAt(5 * 2048), 5);
    Checks.due("its third sector", y.byteAt(7 * 2048), Checks.content(5, 4096));
  }

  private static void everyByteOfAFile() {
    Checks.part("every byte of a file");
    int[] seeds = {0, 1, 200, 255};
    for (int seed : seeds) {
      for (int from = 0; from < 6144; from += 400) {
        WriteOnceDisc x = new WriteOnceDisc(40);
        x.file(0, w("F"), 6000, seed);
        x.commit();
        for (int i = from; i < from + 400 && i < 6144; i++) {
          Checks.due("seed " + seed + ", byte " + i, x.byteAt(i), i < 6000 ? Checks.content(seed, i) : 0);
        }
      }
    }
  }

  private static void extentsBegunAnew() {
    Checks.part("extents begun anew");
    for (int bad = 0; bad < 3; bad++) {
      WriteOnceDisc x = new WriteOnceDisc(100);
      x.defect(bad);
      x.file(0, w("F"), 6000, 9);
      Checks.due("commit", x.commit(), 1);
      Checks.due("behind the bad one, " + bad, x.tree(1, 4), bad + 1);
      Checks.due("writes", x.writes(), bad + 1 + 3 + 6);
      for (int s = 0; s < bad + 4; s++) Checks.due("state " + s, x.state(s), s == bad ? 2 : 1);
      for (int p = 0; p < 3; p++) {
        Checks.due("part " + p, x.byteAt((bad + 1 + p) * 2048), Checks.content(9, p * 2048));
      }
      Checks.due("base", x.mark(0, 1), bad + 4);
    }
    WriteOnceDisc x = new WriteOnceDisc(100);
    for (int s = 0; s < 5; s++) x.defect(s);
    x.file(0, w("F"), 6000, 9);
    x.file(0, w("G"), 1, 8);
    Checks.due("commit", x.commit(), 1);
    Checks.due("behind five bad ones", x.tree(1, 4), 5);
    Checks.due("the next one's extent", x.tree(2, 4), 8);
    Checks.due("writes", x.writes(), 5 + 3 + 1 + 6);
  }

  private static void filesOfSizeZero() {
    Checks.part("files of size 0");
    WriteOnceDisc x = new WriteOnceDisc(100);
    x.file(0, w("E"), 0, 9);
    x.file(0, w("F"), 1, 9);
    Checks.due("commit", x.commit(), 1);
    Checks.due("size 1 takes a sector", x.writes(), 1 + 6);
    Checks.due("the base is behind it", x.mark(0, 1), 1);
    Checks.due("extent of nothing", x.tree(1, 4), 0);
    x.replace(1, 1, 9);
    Checks.due("commit", x.commit(), 2);
    Checks.due("it has an extent now", x.tree(1, 4), 23);
    x.replace(1, 0, 9);
    Checks.due("commit", x.commit(), 3);
    Checks.due("and now none", x.tree(1, 4), 0);
    x.open(2);
    Checks.due("its record says sector 0", x.node(1, 3), 0);
    Checks.due("and size 0", x.node(1, 2), 0);
    x.open(1);
    Checks.due("the older one", x.node(1, 3), 23);
  }

  /** Power that lasts for n writes shows which n sectors are the first. */
  private static void theOrderOfWrites() {
    Checks.part("the order of writes");
    int[] order = {0, 1, 2, 19, 20, 21, 22, 23, 24, 25, 26};
    for (int n = 0; n <= order.length; n++) {
      WriteOnceDisc x = new WriteOnceDisc(60);
      x.file(0, w("Z"), 2049, 1);
      x.directory(0, w("B"));
      x.file(2, w("A"), 1, 2);
      x.directory(0, w("A"));
      x.power(n);
      Checks.due("commit with power for " + n, x.commit(), n < order.length ? LOST : 1);
      for (int s = 0; s < 60; s++) Checks.due("state " + s + ", power for " + n, x.state(s), stateThen(order, n, s));
    }
  }

  private static int stateThen(int[] order, int n, int sector) {
    for (int i = 0; i < order.length; i++) {
      if (order[i] == sector) return i < n ? 1 : i == n ? 2 : 0;
    }
    return 0;
  }

  private static void theFront() {
    Checks.part("the front");
    WriteOnceDisc x = new WriteOnceDisc(100);
    Checks.due("commit", x.commit(), 1);
    Checks.due("of a blank medium", x.mark(0, 1), 0);
    Checks.due("commit", x.commit(), 2);
    Checks.due("behind a written sector, not in the blank ones ahead", x.mark(1, 1), 22);
    x.power(1);
    Checks.due("commit", x.commit(), LOST);
    x.discover();
    x.file(0, w("F"), 1, 1);
    Checks.due("commit", x.commit(), 3);
    Checks.due("behind a bad sector", x.tree(1, 4), 44 + 16 + 2);
    Checks.due("behind the file", x.mark(2, 1), 44 + 16 + 3);
    WriteOnceDisc y = new WriteOnceDisc(40);
    for (int i = 0; i < 13; i++) y.file(0, w("F" + i), 6000, i);
    y.file(0, w("G"), 2048, 1);
    Checks.due("a medium that is filled to its end", y.commit(), FULL);
    Checks.due("the last sector", y.state(39), 1);
    Checks.due("writes", y.writes(), 40);
    y.file(0, w("H"), 1, 1);
    Checks.due("nothing can be written any more", y.commit(), FULL);
    Checks.due("writes then", y.writes(), 40);
    Checks.due("extent", y.tree(15, 4), 0);
  }

  interface Step {
    void on(WriteOnceDisc x);
  }

  private static void whatIsNotBlankStays() {
    Checks.part("only blank sectors are written");
    Step[] steps = {
      x -> x.defect(1), x -> x.file(0, w("A"), 3000, 5), x -> x.defect(23), x -> x.commit(), x -> x.replace(1, 100, 6),
      x -> x.power(3), x -> x.commit(), x -> x.discover(), x -> x.defect(1), x -> x.file(0, w("B"), 6000, 7),
      x -> x.commit(), x -> x.file(0, w("C"), 6000, 8), x -> x.commit(), x -> x.commit(), x -> x.discover(),
    };
    for (int n = 1; n <= steps.length; n++) {
      WriteOnceDisc before = new WriteOnceDisc(110);
      WriteOnceDisc behind = new WriteOnceDisc(110);
      for (int i = 0; i < n; i++) {
        if (i < n - 1) steps[i].on(before);
        steps[i].on(behind);
      }
      for (int s = 0; s < 110; s++) {
        int state = before.state(s);
        if (state == 0) continue;
        Checks.due("state " + s + " behind step " + n, behind.state(s), state);
        int[] places = {0, 1, 34, 2047};
        for (int i : places) {
          int a = s * 2048 + i;
          Checks.due("byte " + i + " of " + s + " behind step " + n, behind.byteAt(a), before.byteAt(a));
        }
      }
    }
  }

  private static void onlyWhatIsNew() {
    Checks.part("only what is new is written");
    WriteOnceDisc x = new WriteOnceDisc(200);
    x.file(0, w("A"), 100, 1);
    x.file(0, w("B"), 100, 2);
    Checks.due("commit", x.commit(), 1);
    Checks.due("writes", x.writes(), 8);
    Checks.due("commit", x.commit(), 2);
    Checks.due("the session alone", x.writes(), 14);
    x.replace(1, 100, 3);
    x.file(0, w("C"), 0, 2);
    Checks.due("commit", x.commit(), 3);
    Checks.due("and one file", x.writes(), 21);
    Checks.due("A", x.tree(1, 4), 46);
    Checks.due("B", x.tree(2, 4), 1);
    x.open(2);
    Checks.due("B in the session", x.node(2, 3), 1);
    Checks.due("A in the session", x.read(1, 0), 3);
    x.open(1);
    Checks.due("A in the older one", x.read(1, 0), 1);
  }

  private static void badSectorsInASession() {
    Checks.part("bad sectors in a session");
    for (int bad = 16; bad <= 22; bad++) {
      WriteOnceDisc x = new WriteOnceDisc(100);
      x.directory(0, w("D"));
      x.defect(bad);
      Checks.due("commit", x.commit(), 1);
      Checks.due("the only mark's base", x.mark(0, 1), bad + 1);
      Checks.due("its number", x.mark(0, 2), 1);
      Checks.due("its sector", x.mark(0, 0), bad + 1 + 22);
      Checks.due("it reads", x.mark(0, 3), 2);
      Checks.due("writes", x.writes(), bad - 15 + 7);
      Checks.due("the bad one", x.state(bad), 2);
      Checks.due("behind it", x.state(bad + 1), 0);
    }
    WriteOnceDisc x = new WriteOnceDisc(100);
    x.defect(3);
    x.defect(15);
    Checks.due("defects where nothing is written", x.commit(), 1);
    Checks.due("do nothing", x.mark(0, 1), 0);
  }

  /** The first session meets a bad sector in its path table, the second in its mark. */
  private static void sessionsMadeAnewTwice() {
    Checks.part("a session made anew twice");
    WriteOnceDisc x = new WriteOnceDisc(100);
    x.file(0, w("B"), 1, 9);
    x.file(0, w("A"), 1, 9);
    x.directory(0, w("D"));
    x.defect(2 + 19);
    x.defect(22 + 22);
    Checks.due("commit", x.commit(), 1);
    Checks.due("base", x.mark(0, 1), 45);
    Checks.due("mark", x.mark(0, 0), 45 + 22);
    Checks.due("number", x.mark(0, 2), 1);
    Checks.none("no other mark", () -> x.mark(1, 0));
    Checks.due("the files are written once", x.writes(), 2 + 4 + 7 + 7);
    Checks.due("extent", x.tree(2, 4), 1);
    Checks.due("it reads", x.mark(0, 3), 4);
    Checks.due("the first one's descriptor stays", x.byteAt(18 * 2048), 1);
    Checks.due("the second one's root stays", x.byteAt(42 * 2048), 34);
    Checks.due("the root's sector is told anew", x.byteAt(61 * 2048 + 158), 65);
    WriteOnceDisc y = new WriteOnceDisc(100);
    for (int s = 16; s < 40; s++) y.defect(s);
    Checks.due("commit", y.commit(), 1);
    Checks.due("bases 0, 17 and 34, whose descriptor is behind the last bad one", y.mark(0, 1), 34);
    Checks.due("writes", y.writes(), 2 + 6);
  }

  private static void badMark() {
    Checks.part("a bad mark");
    WriteOnceDisc x = new WriteOnceDisc(43);
    x.defect(21);
    Checks.due("no room for another session", x.commit(), FULL);
    Checks.none("no mark", () -> x.mark(0, 0));
    Checks.due("nothing complete", x.discover(), 0);
    WriteOnceDisc y = new WriteOnceDisc(100);
    y.power(5);
    Checks.due("power goes in the mark", y.commit(), LOST);
    Checks.due("nothing complete", y.discover(), 0);
    Checks.due("number", y.commit(), 1);
    Checks.due("base", y.mark(0, 1), 22);
  }

  private static void extentDoesNotFit() {
    Checks.part("an extent that does not fit");
    WriteOnceDisc x = new WriteOnceDisc(40);
    for (int i = 0; i < 14; i++) x.file(0, w("F" + i), 6000, i);
    Checks.due("commit", x.commit(), FULL);
    Checks.due("whole ones alone are written", x.writes(), 39);
    Checks.due("state(38)", x.state(38), 1);
    Checks.due("state(39)", x.state(39), 0);
    Checks.due("extent of the last that fits", x.tree(13, 4), 36);
    Checks.due("extent of the one that doesn't", x.tree(14, 4), 0);
    Checks.due("changes go on", x.replace(14, 1, 1), 0);
    Checks.due("commit", x.commit(), FULL);
    Checks.due("the last sector too", x.tree(14, 4), 39);
    Checks.due("writes", x.writes(), 40);
    Checks.due("discover", x.discover(), 0);
  }

  private static void extentFitsToTheLastSector() {
    Checks.part("an extent that just fits");
    WriteOnceDisc x = new WriteOnceDisc(40);
    Checks.due("commit", x.commit(), 1);
    for (int i = 0; i < 6; i++) x.file(0, w("F" + i), 6000, i);
    Checks.due("commit", x.commit(), FULL);
    Checks.due("extent of the last", x.tree(6, 4), 37);
    Checks.due("the last sector", x.state(39), 1);
    Checks.due("its byte", x.byteAt(39 * 2048), Checks.content(5, 4096));
    WriteOnceDisc y = new WriteOnceDisc(40);
    Checks.due("commit", y.commit(), 1);
    y.file(0, w("A"), 1, 1);
    for (int i = 0; i < 6; i++) y.file(0, w("F" + i), 6000, i);
    Checks.due("commit", y.commit(), FULL);
    Checks.due("extent of one that would need a sector more", y.tree(7, 4), 0);
    Checks.due("nothing of it is written", y.state(38), 0);
    Checks.due("writes", y.writes(), 6 + 1 + 15);
    Checks.due("the older session is whole", y.open(0), 1);
    Checks.due("discover", y.discover(), 1);
  }

  private static void sessionDoesNotFit() {
    Checks.part("a session that does not fit");
    WriteOnceDisc x = new WriteOnceDisc(40);
    for (int i = 0; i < 6; i++) x.file(0, w("F" + i), 6000, i);
    x.file(0, w("G"), 1, 1);
    Checks.due("commit", x.commit(), FULL);
    Checks.due("writes", x.writes(), 19);
    Checks.due("nothing of it is written", x.state(35), 0);
    Checks.due("commit again", x.commit(), FULL);
    Checks.due("writes", x.writes(), 19);
    Checks.none("no mark", () -> x.mark(0, 0));
  }

  private static void sessionFitsToTheLastSector() {
    Checks.part("a session that just fits");
    WriteOnceDisc x = new WriteOnceDisc(40);
    for (int i = 0; i < 6; i++) x.file(0, w("F" + i), 6000, i);
    Checks.due("commit", x.commit(), 1);
    Checks.due("the mark is the last sector", x.mark(0, 0), 39);
    Checks.due("open", x.open(0), 7);
    WriteOnceDisc y = new WriteOnceDisc(40);
    for (int i = 0; i < 6; i++) y.file(0, w("F" + i), 6000, i);
    y.directory(0, w("D"));
    Checks.due("with one directory more", y.commit(), FULL);
  }

  private static void badSectorsLeaveNoRoom() {
    Checks.part("bad sectors leave no room");
    WriteOnceDisc x = new WriteOnceDisc(40);
    x.defect(18);
    Checks.due("commit", x.commit(), FULL);
    Checks.due("writes", x.writes(), 3);
    WriteOnceDisc y = new WriteOnceDisc(40);
    y.file(0, w("F"), 6000, 1);
    for (int s = 0; s < 40; s += 3) y.defect(s + 2);
    Checks.due("commit", y.commit(), FULL);
    Checks.due("writes", y.writes(), 39);
    Checks.due("extent", y.tree(1, 4), 0);
    WriteOnceDisc z = new WriteOnceDisc(40);
    z.file(0, w("F"), 6000, 1);
    for (int s = 0; s < 40; s++) z.defect(s);
    Checks.due("all are bad", z.commit(), FULL);
    Checks.due("writes", z.writes(), 38);
  }

  private static void writtenExtentsNeedNotBeWrittenAgain() {
    Checks.part("written extents");
    WriteOnceDisc x = new WriteOnceDisc(60);
    x.file(0, w("A"), 100, 1);
    for (int i = 0; i < 13; i++) x.file(0, w("F" + i), 6000, i);
    Checks.due("commit", x.commit(), FULL);
    Checks.due("writes", x.writes(), 40);
    for (int i = 2; i <= 14; i++) x.remove(i);
    Checks.due("no room for a session yet", x.commit(), FULL);
    Checks.due("nothing is written again", x.writes(), 40);
    Checks.due("extent", x.tree(1, 4), 0);
    WriteOnceDisc y = new WriteOnceDisc(45);
    y.file(0, w("A"), 100, 1);
    for (int i = 0; i < 20; i++) y.directory(0, w("D" + i));
    y.file(0, w("B"), 6000, 9);
    y.replace(22, 6000, 8);
    Checks.due("a session of 42 sectors", y.commit(), FULL);
    int writes = y.writes();
    for (int i = 2; i <= 21; i++) y.remove(i);
    Checks.due("a session of 22 sectors", y.commit(), 1);
    Checks.due("the session alone is written", y.writes() - writes, 6);
    Checks.due("open", y.open(0), 3);
    Checks.due("B", y.read(2, 5999), Checks.content(8, 5999));
  }

  private static void numbers() {
    Checks.part("numbers of sessions");
    WriteOnceDisc x = new WriteOnceDisc(200);
    Checks.due("commit", x.commit(), 1);
    Checks.due("commit", x.commit(), 2);
    x.spoil((22 + 16) * 2048, 9);
    Checks.due("one above what was completed since", x.commit(), 3);
    Checks.due("discover", x.discover(), 2);
    Checks.due("one above the last complete one's", x.commit(), 4);
    x.spoil(16 * 2048, 9);
    for (int b = 44; b <= 66; b += 22) x.spoil((b + 16) * 2048, 9);
    Checks.due("discover", x.discover(), 0);
    Checks.due("one above none", x.commit(), 1);
    Checks.spoilLow4(x, (88 + 21) * 2048 + 8, 1000);
    Checks.due("the mark's number is not looked at without discovery", x.commit(), 2);
    Checks.due("discover", x.discover(), 2);
    Checks.due("the last is told by its mark's sector", x.commit(), 3);
    Checks.due("its number", x.mark(6, 2), 3);
    Checks.spoilLow4(x, x.mark(6, 0) * 2048 + 8, 70000);
    Checks.due("discover", x.discover(), 3);
    Checks.due("one above", x.commit(), 70001);
    Checks.due("its number on the medium", Checks.low4(x, x.mark(7, 0) * 2048 + 8), 70001);
  }

  private static void theLargestNumber() {
    Checks.part("the largest number of a session");
    WriteOnceDisc x = new WriteOnceDisc(100);
    Checks.due("commit", x.commit(), 1);
    Checks.spoilLow4(x, 21 * 2048 + 8, Integer.MAX_VALUE - 1);
    Checks.due("discover", x.discover(), 1);
    Checks.due("one above", x.commit(), Integer.MAX_VALUE);
    Checks.due("on its mark", x.mark(1, 2), Integer.MAX_VALUE);
    bytes(x, "mark", 43 * 2048, 'M', 'A', 'R', 'K', 22, 0, 0, 0, 255, 255, 255, 127, 0);
    Checks.due("discover", x.discover(), 2);
  }

  private static void lostGoesBeforeFull() {
    Checks.part("LOST and FULL");
    WriteOnceDisc x = new WriteOnceDisc(40);
    Checks.due("commit", x.commit(), 1);
    x.power(0);
    Checks.due("no room: no write, so power is not lost", x.commit(), FULL);
    Checks.due("a change", x.file(0, w("A"), 1, 1), 1);
    Checks.due("power goes in the extent", x.commit(), LOST);
    Checks.due("it was lost before, and there is no room", x.commit(), LOST);
    Checks.due("writes", x.writes(), 7);
  }
}
