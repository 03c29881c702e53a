/** Promises 16 to 20: marks, what reading a session says, and what is open. */
public final class ReadingTest {
  private static final int S = Checks.SECTOR;
  private static final int NONE = WriteOnceDisc.NONE;
  /** The sectors of the session that most tests here spoil. */
  private static final int BASE = 3, DESCRIPTOR = (BASE + 16) * S, END = DESCRIPTOR + S, LOW = END + S, HIGH = LOW + S;
  private static final int ROOT = HIGH + S, D = ROOT + S, E = D + S, MARK = E + S;
  /** The records of the root: itself, its parent, A (a file of 3000), D, E, Z (a file of size 0). */
  private static final int ROOT_A = ROOT + 68, ROOT_D = ROOT_A + 38, ROOT_E = ROOT_D + 34, ROOT_Z = ROOT_E + 34;
  /** The record of the file F in D. */
  private static final int D_F = D + 68;

  public static void main(String[] args) {
    marks();
    marksAtTheEdges();
    marksOnOddSectors();
    marksThatLostPower();
    opening();
    nodesOfWhatIsOpen();
    reading();
    headSectors();
    headOffTheMedium();
    descriptorFields();
    everyBitOfTheFields();
    numbersOfFourBytes();
    whatIsNotLookedAt();
    rootRecord();
    recordLengths();
    identifiersOfNoBytes();
    recordHalves();
    recordKinds();
    identifiers();
    sizesAndSectors();
    theLastSectorOfTheMedium();
    firstAndSecondRecords();
    directoriesWithoutRecords();
    risingIdentifiers();
    directoriesToldTwice();
    directoriesAndFilesInOneSector();
    directoriesInAnotherOrder();
    directoriesInThemselves();
    longDirectories();
    directoriesAmongOtherBytes();
    tooDeep();
    tooManyNodes();
    pathTables();
    longestPathTable();
    theFirstThatIsWrong();
    whatReadingLeavesAlone();
    Checks.finish();
  }

  private static long w(String name) {
    return Checks.word(name);
  }

  /** A in the root (sectors 0, 1), F in D (sector 2), an empty E, and Z of size 0. */
  private static WriteOnceDisc sample() {
    WriteOnceDisc x = new WriteOnceDisc(100);
    x.file(0, w("A"), 3000, 1);
    x.directory(0, w("D"));
    x.directory(0, w("E"));
    x.file(2, w("F"), 100, 2);
    x.file(0, w("Z"), 0, 3);
    Checks.due("commit", x.commit(), 1);
    Checks.due("it reads", x.mark(0, 3), 6);
    Checks.due("its mark", x.mark(0, 0), MARK / S);
    return x;
  }

  private static void wrong(WriteOnceDisc x, String what, int place) {
    Checks.due(what, x.mark(0, 3), -1 - place);
    Checks.due(what + ", opened", x.open(0), -1 - place);
    Checks.none(what + ", nothing is open", () -> x.node(0, 0));
    Checks.due(what + ", discovered", x.discover(), 0);
  }

  /** One byte of the sample becomes another: then that place is wrong. */
  private static void spoilt(String what, int address, int value, int place) {
    WriteOnceDisc x = sample();
    x.spoil(address, value);
    wrong(x, what, place);
  }

  private static void stillReads(String what, int address, int value) {
    WriteOnceDisc x = sample();
    Checks.due(what + ": it is another byte", x.spoil(address, value) != value, true);
    Checks.due(what, x.mark(0, 3), 6);
  }

  private static void marks() {
    Checks.part("mark");
    WriteOnceDisc x = new WriteOnceDisc(100);
    x.file(0, w("A"), 1, 1);
    x.commit();
    x.commit();
    Checks.due("sector", x.mark(0, 0), 22);
    Checks.due("base", x.mark(0, 1), 1);
    Checks.due("number", x.mark(0, 2), 1);
    Checks.due("nodes", x.mark(0, 3), 2);
    Checks.due("sector of the second", x.mark(1, 0), 44);
    Checks.due("base of the second", x.mark(1, 1), 23);
    Checks.due("number of the second", x.mark(1, 2), 2);
    Checks.none("the third", () -> x.mark(2, 0));
    Checks.none("-1", () -> x.mark(-1, 0));
    Checks.none("MIN", () -> x.mark(Integer.MIN_VALUE, 0));
    Checks.none("what 4", () -> x.mark(0, 4));
    Checks.none("what -1", () -> x.mark(0, -1));
    Checks.none("neither", () -> x.mark(5, 9));
    x.spoil(22 * S, 'm');
    Checks.due("the first is none any more", x.mark(0, 0), 44);
    Checks.none("and there is one alone", () -> x.mark(1, 0));
    x.spoil(22 * S, 'M');
    x.spoil(22 * S + 3, 'X');
    Checks.due("its last letter", x.mark(0, 0), 44);
    x.spoil(22 * S + 3, 'K');
    x.spoil(22 * S + 8, 0);
    Checks.due("number 0", x.mark(0, 0), 44);
    x.spoil(22 * S + 11, 0x80);
    Checks.due("number below 0", x.mark(0, 0), 44);
    Checks.spoilLow4(x, 22 * S + 8, Integer.MAX_VALUE);
    Checks.due("a number above 0", x.mark(0, 2), Integer.MAX_VALUE);
    x.spoil(22 * S + 4, 22);
    Checks.due("a base that is the sector", x.mark(0, 0), 44);
    x.spoil(22 * S + 4, 21);
    Checks.due("a base below the sector", x.mark(0, 1), 21);
    x.spoil(22 * S + 4, 0);
    Checks.due("base 0", x.mark(0, 1), 0);
    x.spoil(22 * S + 7, 255);
    Checks.due("a base below 0", x.mark(0, 0), 44);
    x.spoil(22 * S + 7, 0);
    x.spoil(22 * S + 12, 77);
    Checks.due("what lies behind is free", x.mark(0, 0), 22);
  }

  private static void marksAtTheEdges() {
    Checks.part("marks, the edges");
    for (int i = 0; i < 4; i++) {
      WriteOnceDisc x = sample();
      x.spoil(MARK + i, 0);
      Checks.none("without its letter " + i, () -> x.mark(0, 0));
      Checks.due("discover", x.discover(), 0);
    }
    int sector = MARK / S;
    int[] bases = {-1, sector, sector + 1, Integer.MIN_VALUE, Integer.MAX_VALUE, 1 << 24};
    for (int base : bases) {
      WriteOnceDisc x = sample();
      Checks.spoilLow4(x, MARK + 4, base);
      Checks.none("base " + base, () -> x.mark(0, 0));
      Checks.due("discover", x.discover(), 0);
    }
    int[] right = {0, sector - 1};
    for (int base : right) {
      WriteOnceDisc x = sample();
      Checks.spoilLow4(x, MARK + 4, base);
      Checks.due("base " + base, x.mark(0, 1), base);
      Checks.due("discover", x.discover(), 0);
    }
    int[] numbers = {0, -1, Integer.MIN_VALUE};
    for (int number : numbers) {
      WriteOnceDisc x = sample();
      Checks.spoilLow4(x, MARK + 8, number);
      Checks.none("number " + number, () -> x.mark(0, 0));
      Checks.due("discover", x.discover(), 0);
    }
    int[] above = {1, 1 << 24, Integer.MAX_VALUE};
    for (int number : above) {
      WriteOnceDisc x = sample();
      Checks.spoilLow4(x, MARK + 8, number);
      Checks.due("number " + number, x.mark(0, 2), number);
      Checks.due("discover", x.discover(), 1);
    }
  }

  private static void marksThatLostPower() {
    Checks.part("marks that proved bad");
    WriteOnceDisc x = new WriteOnceDisc(100);
    x.power(5);
    x.commit();
    x.discover();
    Checks.due("the mark's sector", x.state(21), 2);
    Checks.none("it is no mark", () -> x.mark(0, 0));
    Checks.due("nor is it opened", x.open(0), -1000000);
  }

  private static void marksOnOddSectors() {
    Checks.part("marks that no commit wrote");
    WriteOnceDisc x = sample();
    Checks.spoilText(x, S, "MARK");
    Checks.spoilLow4(x, S + 4, 0);
    Checks.spoilLow4(x, S + 8, 9);
    Checks.due("in a file's sector", x.mark(0, 0), 1);
    Checks.due("its session has no sectors yet", x.mark(0, 3), -1 - 16 * S);
    Checks.due("the real one is second", x.mark(1, 3), 6);
    Checks.due("one is complete", x.discover(), 1);
    Checks.spoilText(x, E + 100, "MARK");
    Checks.due("not at a sector's beginning", x.mark(1, 0), MARK / S);
    Checks.spoilText(x, 0, "MARK");
    Checks.spoilLow4(x, 4, 0);
    Checks.spoilLow4(x, 8, 9);
    Checks.due("sector 0 has no base below it", x.mark(0, 0), 1);
  }

  private static void opening() {
    Checks.part("open");
    WriteOnceDisc x = new WriteOnceDisc(100);
    Checks.due("no mark", x.open(0), -1000000);
    x.file(0, w("A"), 1, 1);
    x.commit();
    x.file(0, w("B"), 1, 1);
    x.commit();
    Checks.due("the second", x.open(1), 3);
    Checks.due("no third", x.open(2), -1000000);
    Checks.due("what was open stays", x.name(2), w("B"));
    Checks.due("-1", x.open(-1), -1000000);
    Checks.due("MIN", x.open(Integer.MIN_VALUE), -1000000);
    Checks.due("what was open stays", x.name(2), w("B"));
    Checks.due("the first", x.open(0), 2);
    Checks.none("it has no third node", () -> x.name(2));
    x.spoil((x.mark(1, 1) + 16) * S + 6, 2);
    Checks.due("what is wrong", x.open(1), -1 - (x.mark(1, 1) + 16) * S);
    Checks.none("nothing is open then", () -> x.name(0));
    Checks.due("the first again", x.open(0), 2);
    x.spoil(17 * S, 0);
    Checks.due("what is open was read before", x.name(1), w("A"));
    WriteOnceDisc y = new WriteOnceDisc(100);
    y.commit();
    Checks.due("the root alone", y.open(0), 1);
    Checks.due("its parent", y.node(0, 0), NONE);
    Checks.due("its name", y.name(0), 0);
  }

  private static void nodesOfWhatIsOpen() {
    Checks.part("node and name");
    WriteOnceDisc x = sample();
    x.open(0);
    int[][] due = {
      {NONE, 0, 2048, ROOT / S}, {0, 1, 3000, 0}, {0, 0, 2048, D / S}, {0, 0, 2048, E / S}, {0, 1, 0, 0}, {2, 1, 100, 2},
    };
    String[] names = {"", "A", "D", "E", "Z", "F"};
    for (int k = 0; k < 6; k++) {
      for (int what = 0; what < 4; what++) Checks.due("node " + k + " " + what, x.node(k, what), due[k][what]);
      Checks.due("name " + k, x.name(k), w(names[k]));
    }
    Checks.none("node 6", () -> x.node(6, 0));
    Checks.none("node -1", () -> x.node(-1, 0));
    Checks.none("what 4", () -> x.node(0, 4));
    Checks.none("what -1", () -> x.node(0, -1));
    Checks.none("name 6", () -> x.name(6));
    Checks.none("name -1", () -> x.name(-1));
    x.remove(1);
    x.rename(4, 0, w("G"));
    Checks.due("the tree's changes are not seen", x.name(5), w("F"));
    Checks.spoilBoth4(x, ROOT_A + 10, 50);
    Checks.due("it is as it was opened", x.node(1, 2), 3000);
    Checks.due("and opened again", x.open(0), 6);
    Checks.due("it is as it is now", x.node(1, 2), 50);
    WriteOnceDisc y = new WriteOnceDisc(100);
    y.file(0, w("ABCDEFGH"), 1, 1);
    y.commit();
    y.open(0);
    Checks.due("eight letters", y.name(1), w("ABCDEFGH"));
  }

  private static void reading() {
    Checks.part("read");
    WriteOnceDisc x = sample();
    Checks.none("nothing is open", () -> x.read(1, 0));
    x.open(0);
    int[] places = {0, 1, 127, 128, 2047, 2048, 2999};
    for (int i : places) Checks.due("byte " + i, x.read(1, i), Checks.content(1, i));
    Checks.none("behind the end", () -> x.read(1, 3000));
    Checks.none("ahead of the beginning", () -> x.read(1, -1));
    Checks.none("MIN", () -> x.read(1, Integer.MIN_VALUE));
    Checks.none("MAX", () -> x.read(1, Integer.MAX_VALUE));
    Checks.none("of a directory", () -> x.read(2, 0));
    Checks.none("of the root", () -> x.read(0, 0));
    Checks.none("of size 0", () -> x.read(4, 0));
    Checks.none("of no node", () -> x.read(6, 0));
    Checks.none("of -1", () -> x.read(-1, 0));
    Checks.due("of F", x.read(5, 99), Checks.content(2, 99));
    x.spoil(2048, 200);
    Checks.due("as the medium has it now", x.read(1, 2048), 200);
    x.replace(1, 10, 99);
    Checks.due("not as the tree has it", x.read(1, 0), 1);
  }

  private static void headSectors() {
    Checks.part("the head's sectors");
    for (int i = 0; i <= 6; i++) {
      spoilt("byte " + i + " of the descriptor", DESCRIPTOR + i, 90, DESCRIPTOR);
      spoilt("byte " + i + " of the end", END + i, 90, END);
    }
    WriteOnceDisc x = sample();
    x.spoil(END, 1);
    x.spoil(DESCRIPTOR, 255);
    wrong(x, "the descriptor goes first", DESCRIPTOR);
    for (int n = 0; n < 4; n++) {
      WriteOnceDisc y = new WriteOnceDisc(100);
      y.power(n);
      y.commit();
      y.discover();
      y.commit();
      y.spoil(y.mark(0, 0) * S + 4, 0);
      Checks.due("a base whose session was given up", y.mark(0, 3), -1 - (16 + n) * S);
    }
  }

  private static void headOffTheMedium() {
    Checks.part("a head that is not on the medium");
    WriteOnceDisc x = new WriteOnceDisc(40);
    for (int i = 0; i < 6; i++) x.file(0, w("F" + i), 6000, i);
    x.commit();
    Checks.due("the mark is the last sector", x.mark(0, 0), 39);
    for (int base = 19; base < 39; base++) {
      x.spoil(39 * S + 4, base);
      int sector = base >= 21 && base <= 23 ? 40 : base + 16;
      Checks.due("base " + base, x.mark(0, 3), -1 - sector * S);
    }
    x.spoil(39 * S + 4, 16);
    Checks.due("base 16, its first sectors blank", x.mark(0, 3), -1 - 32 * S);
    x.spoil(39 * S + 4, 0);
    Checks.due("base 0, files and blank sectors there", x.mark(0, 3), -1 - 18 * S);
    x.spoil(39 * S + 4, 18);
    Checks.due("base 18 reads", x.mark(0, 3), 7);
  }

  private static void descriptorFields() {
    Checks.part("the descriptor's fields");
    for (int i = 0; i < 4; i++) {
      spoilt("2048, byte " + i, DESCRIPTOR + 128 + i, 77, DESCRIPTOR + 128);
      spoilt("the path table's bytes, byte " + i, DESCRIPTOR + 132 + i, 77, DESCRIPTOR + 132);
      spoilt("the path table's bytes, byte 4 + " + i, DESCRIPTOR + 136 + i, 77, DESCRIPTOR + 132);
      spoilt("L, byte " + i, DESCRIPTOR + 140 + i, 77, DESCRIPTOR + 140);
      spoilt("M, byte " + i, DESCRIPTOR + 148 + i, 77, DESCRIPTOR + 148);
    }
    WriteOnceDisc x = sample();
    Checks.spoilBoth4(x, DESCRIPTOR + 132, 2049);
    x.spoil(ROOT, 1);
    wrong(x, "more bytes than a sector has, found at once", DESCRIPTOR + 132);
    Checks.spoilBoth4(x, DESCRIPTOR + 132, 2048);
    wrong(x, "another number of bytes, found at last", ROOT);
    Checks.spoilBoth4(x, DESCRIPTOR + 132, 0);
    wrong(x, "no bytes, found at last", ROOT);
    x.spoil(ROOT, 34);
    wrong(x, "no bytes", DESCRIPTOR + 132);
    Checks.spoilBoth4(x, DESCRIPTOR + 132, 2048);
    wrong(x, "another number of bytes", DESCRIPTOR + 132);
    Checks.spoilBoth4(x, DESCRIPTOR + 132, 28);
    wrong(x, "too few bytes", DESCRIPTOR + 132);
    Checks.spoilBoth4(x, DESCRIPTOR + 132, 30);
    Checks.due("the right number", x.mark(0, 3), 6);
    WriteOnceDisc y = sample();
    y.spoil(DESCRIPTOR + 129, 9);
    y.spoil(DESCRIPTOR + 130, 9);
    wrong(y, "both halves of another number", DESCRIPTOR + 128);
  }

  private static void everyBitOfTheFields() {
    Checks.part("every bit of the descriptor's fields");
    int[] fields = {128, 132, 140, 148};
    int[] lengths = {4, 8, 4, 4};
    for (int f = 0; f < fields.length; f++) {
      int place = DESCRIPTOR + fields[f];
      for (int i = 0; i < lengths[f]; i++) {
        for (int bit = 1; bit < 256; bit *= 2) {
          WriteOnceDisc x = sample();
          x.spoil(place + i, x.byteAt(place + i) ^ bit);
          wrong(x, "bit " + bit + " of byte " + i + " at " + fields[f], place);
        }
      }
    }
    // 110 + 19 is 128 + 1: the bytes 1, 1 are neither
    WriteOnceDisc x = new WriteOnceDisc(200);
    for (int i = 0; i < 6; i++) x.commit();
    Checks.due("the sixth base", x.mark(5, 1), 110);
    int m = (110 + 16) * S + 148;
    Checks.due("M", x.byteAt(m + 3), 129);
    x.spoil(m + 2, 1);
    x.spoil(m + 3, 1);
    Checks.due("M, 257", x.mark(5, 3), -1 - m);
  }

  /** A number whose lower bytes alone would be right. */
  private static void numbersOfFourBytes() {
    Checks.part("numbers of four bytes");
    for (int bits = 16; bits <= 24; bits += 8) {
      int high = 1 << bits;
      fourBytes("the path table's bytes", DESCRIPTOR + 132, high + 30, DESCRIPTOR + 132);
      fourBytes("the root's sector", DESCRIPTOR + 158, high + ROOT / S, DESCRIPTOR + 156);
      fourBytes("the root's size", DESCRIPTOR + 166, high + S, DESCRIPTOR + 156);
      fourBytes("a file's sector", ROOT_A + 2, high, ROOT_A);
      fourBytes("a file's size", ROOT_A + 10, high + 3000, ROOT_A);
      fourBytes("a directory's sector", ROOT_D + 2, high + D / S, ROOT_D);
      fourBytes("a directory's size", ROOT_D + 10, high + S, ROOT_D);
      fourBytes("a sector for size 0", ROOT_Z + 2, high, ROOT_Z);
      fourBytes("its own sector", D + 2, high + D / S, D);
      fourBytes("its parent's sector", D + 36, high + ROOT / S, D + 34);
    }
    fourBytes("the path table's bytes below 0", DESCRIPTOR + 132, -1, DESCRIPTOR + 132);
    for (int bits = 16; bits <= 24; bits += 8) {
      WriteOnceDisc x = sample();
      x.spoil(ROOT, 1);
      Checks.spoilBoth4(x, DESCRIPTOR + 132, (1 << bits) + 30);
      wrong(x, "more bytes than a sector has, found ahead of the root", DESCRIPTOR + 132);
    }
  }

  private static void fourBytes(String what, int address, int value, int place) {
    WriteOnceDisc x = sample();
    Checks.spoilBoth4(x, address, value);
    wrong(x, what + " " + value, place);
  }

  private static void whatIsNotLookedAt() {
    Checks.part("what reading does not look at");
    stillReads("N", DESCRIPTOR + 80, 1);
    stillReads("between the fields", DESCRIPTOR + 100, 1);
    stillReads("between L and M", DESCRIPTOR + 144, 1);
    stillReads("behind the root's record", DESCRIPTOR + 190, 1);
    stillReads("behind the end's beginning", END + 7, 1);
    stillReads("behind L", LOW + 30, 1);
    stillReads("behind M", HIGH + 30, 1);
    stillReads("a record's byte 1", ROOT_A + 1, 1);
    stillReads("a record's byte 18", ROOT_A + 18, 1);
    stillReads("a record's byte 24", ROOT_A + 24, 1);
    stillReads("a record's byte 26", ROOT_A + 26, 1);
    stillReads("a file's byte", 17, 1);
    stillReads("behind the byte 0 that ends a sector's records", E + 69, 90);
    WriteOnceDisc x = sample();
    x.spoil(ROOT_A + 28, 2);
    x.spoil(ROOT_A + 31, 2);
    Checks.due("both halves at 28", x.mark(0, 3), 6);
  }

  private static void rootRecord() {
    Checks.part("the root's record");
    int at = DESCRIPTOR + 156;
    int[] offsets = {0, 2, 3, 4, 5, 6, 7, 8, 9, 10, 11, 12, 13, 14, 15, 16, 17, 25, 28, 29, 30, 31, 32, 33};
    for (int i : offsets) spoilt("byte " + i, at + i, 77, at);
    spoilt("a file's mark", at + 25, 0, at);
    spoilt("the parent's identifier", at + 33, 1, at);
    WriteOnceDisc x = sample();
    Checks.spoilBoth4(x, at + 10, 0);
    wrong(x, "size 0", at);
    Checks.spoilBoth4(x, at + 10, 2049);
    wrong(x, "no multiple of 2048", at);
    Checks.spoilBoth4(x, at + 10, -2048);
    wrong(x, "below 0", at);
    Checks.spoilBoth4(x, at + 10, 100 * S);
    wrong(x, "more than the medium", at);
    Checks.spoilBoth4(x, at + 10, 2048);
    Checks.spoilBoth4(x, at + 2, 100);
    wrong(x, "behind the medium", at);
    Checks.spoilBoth4(x, at + 2, -1);
    wrong(x, "ahead of the medium", at);
    Checks.spoilBoth4(x, at + 2, MARK / S + 1);
    wrong(x, "a blank sector", at);
    Checks.spoilBoth4(x, at + 2, D / S);
    wrong(x, "another directory, whose parent is told otherwise", D + 34);
  }

  private static void recordLengths() {
    Checks.part("lengths of records");
    spoilt("33", ROOT_A, 33, ROOT_A);
    spoilt("36", ROOT_A, 36, ROOT_A);
    spoilt("40", ROOT_A, 40, ROOT_A);
    spoilt("39, odd", ROOT_A, 39, ROOT_A);
    spoilt("1", ROOT_Z, 1, ROOT_Z);
    spoilt("255", ROOT_Z, 255, ROOT_Z);
    spoilt("another identifier's length", ROOT_A + 32, 6, ROOT_A);
    spoilt("none", ROOT_D + 32, 0, ROOT_D);
    spoilt("of a directory's first record", ROOT, 36, ROOT);
    spoilt("of its second", ROOT + 34, 36, ROOT + 34);
  }

  /** Thirty-four bytes are as many as no identifier would need, too. */
  private static void identifiersOfNoBytes() {
    Checks.part("identifiers of no bytes");
    spoilt("the root's record", DESCRIPTOR + 156 + 32, 0, DESCRIPTOR + 156);
    spoilt("the root's first", ROOT + 32, 0, ROOT);
    spoilt("the root's second", ROOT + 34 + 32, 0, ROOT + 34);
    spoilt("D's first", D + 32, 0, D);
    spoilt("D's second", D + 34 + 32, 0, D + 34);
    spoilt("of two bytes", D + 32, 2, D);
    WriteOnceDisc x = sample();
    x.spoil(D + 34 + 32, 0);
    x.spoil(D + 34 + 33, 0);
    wrong(x, "none, and a byte 0 behind it", D + 34);
  }

  private static void recordHalves() {
    Checks.part("halves of records");
    for (int i = 2; i < 18; i++) {
      spoilt("byte " + i + " of A", ROOT_A + i, 99, ROOT_A);
      spoilt("byte " + i + " of D", ROOT_D + i, 99, ROOT_D);
      spoilt("byte " + i + " of Z", ROOT_Z + i, 99, ROOT_Z);
      spoilt("byte " + i + " of the root itself", ROOT + i, 99, ROOT);
    }
    for (int i = 28; i < 32; i++) {
      spoilt("byte " + i + " of A", ROOT_A + i, 99, ROOT_A);
      spoilt("byte " + i + " of the root's parent", ROOT + 34 + i, 99, ROOT + 34);
    }
  }

  private static void recordKinds() {
    Checks.part("the mark at 25");
    spoilt("1", ROOT_A + 25, 1, ROOT_A);
    spoilt("3", ROOT_D + 25, 3, ROOT_D);
    spoilt("a file as a directory", ROOT_A + 25, 2, ROOT_A);
    spoilt("a directory as a file", ROOT_D + 25, 0, ROOT_D);
    spoilt("itself as a file", D + 25, 0, D);
    spoilt("the parent as a file", D + 34 + 25, 0, D + 34);
  }

  private static void identifiers() {
    Checks.part("identifiers");
    spoilt("a small letter", ROOT_A + 33, 'a', ROOT_A);
    spoilt("a byte 0", ROOT_D + 33, 0, ROOT_D);
    spoilt("a point", ROOT_D + 33, '.', ROOT_D);
    spoilt("no point", ROOT_A + 34, 'B', ROOT_A);
    spoilt("no ;", ROOT_A + 35, 'B', ROOT_A);
    spoilt("no 1", ROOT_A + 36, '2', ROOT_A);
    spoilt("itself named as its parent", D + 33, 1, D);
    spoilt("its parent named as itself", D + 34 + 33, 0, D + 34);
    spoilt("itself by a name", D + 33, 'D', D);
    stillReads("another letter that keeps the order", ROOT_A + 33, 'B');
    WriteOnceDisc x = new WriteOnceDisc(100);
    x.file(0, w("ABCDEFGH"), 0, 1);
    x.commit();
    int at = 20 * S + 68;
    x.spoil(at + 41, 'I');
    x.spoil(at + 42, '.');
    x.spoil(at + 43, ';');
    wrong(x, "no file's name", at);
    x.spoil(at + 25, 2);
    Checks.spoilBoth4(x, at + 2, 20);
    Checks.spoilBoth4(x, at + 10, S);
    wrong(x, "a directory's name of eleven", at);
    WriteOnceDisc y = new WriteOnceDisc(100);
    y.file(0, w("ABCDEFGH"), 0, 1);
    y.commit();
    y.spoil(at, 46);
    y.spoil(at + 32, 12);
    Checks.spoilText(y, at + 33, "ABCDEFGHI.;1");
    wrong(y, "nine letters", at);
    y.spoil(at, 44);
    y.spoil(at + 32, 11);
    Checks.spoilText(y, at + 33, "ABCDEFGH.;1");
    y.spoil(at + 44, 0);
    Checks.due("eight letters", y.mark(0, 3), 2);
    y.spoil(at, 36);
    y.spoil(at + 32, 3);
    Checks.spoilText(y, at + 33, ".;1");
    y.spoil(at + 36, 0);
    wrong(y, "no letter", at);
  }

  private static void sizesAndSectors() {
    Checks.part("sizes and sectors of records");
    WriteOnceDisc x = sample();
    Checks.spoilBoth4(x, ROOT_Z + 2, 1);
    wrong(x, "a sector for size 0", ROOT_Z);
    Checks.spoilBoth4(x, ROOT_Z + 10, 1);
    Checks.due("size 1 in a written sector", x.mark(0, 3), 6);
    Checks.spoilBoth4(x, ROOT_Z + 10, -1);
    wrong(x, "a size below 0", ROOT_Z);
    Checks.spoilBoth4(x, ROOT_Z + 10, Integer.MAX_VALUE);
    wrong(x, "the largest size", ROOT_Z);
    Checks.spoilBoth4(x, ROOT_Z + 10, Integer.MIN_VALUE);
    wrong(x, "the smallest size", ROOT_Z);
    Checks.spoilBoth4(x, ROOT_Z + 10, 2 * S);
    Checks.due("up to the last written sector", x.mark(0, 3), 6);
    Checks.spoilBoth4(x, ROOT_Z + 10, 2 * S + 1);
    wrong(x, "into a blank sector", ROOT_Z);
    Checks.spoilBoth4(x, ROOT_Z + 10, 1);
    Checks.spoilBoth4(x, ROOT_Z + 2, 100);
    wrong(x, "behind the medium", ROOT_Z);
    Checks.spoilBoth4(x, ROOT_Z + 2, -1);
    wrong(x, "ahead of the medium", ROOT_Z);
    Checks.spoilBoth4(x, ROOT_Z + 2, Integer.MAX_VALUE);
    wrong(x, "far behind the medium", ROOT_Z);
    Checks.spoilBoth4(x, ROOT_Z + 2, 99);
    wrong(x, "the last sector, blank", ROOT_Z);
    Checks.spoilBoth4(x, ROOT_Z + 2, ROOT / S);
    Checks.due("a file may lie in a directory's sector", x.mark(0, 3), 6);
    sizesOfDirectories();
    badSectors();
  }

  /** A file's record is made to say sectors up to the medium's end, which is the session's mark. */
  private static void theLastSectorOfTheMedium() {
    Checks.part("the last sector of the medium");
    WriteOnceDisc x = new WriteOnceDisc(40);
    for (int i = 0; i < 6; i++) x.file(0, w("F" + i), 6000, i);
    x.commit();
    int root = 38 * S;
    int f0 = root + 68;
    Checks.spoilBoth4(x, f0 + 2, 39);
    Checks.spoilBoth4(x, f0 + 10, S);
    Checks.due("the last sector", x.mark(0, 3), 7);
    Checks.due("open", x.open(0), 7);
    Checks.due("its first byte", x.read(1, 0), 'M');
    Checks.due("its last byte", x.read(1, S - 1), 0);
    Checks.none("behind it", () -> x.read(1, S));
    Checks.spoilBoth4(x, f0 + 10, S + 1);
    wrong(x, "a byte more", f0);
    Checks.spoilBoth4(x, f0 + 2, 34);
    Checks.spoilBoth4(x, f0 + 10, 6 * S);
    Checks.due("six sectors up to the last", x.mark(0, 3), 7);
    Checks.spoilBoth4(x, f0 + 10, 6 * S + 1);
    wrong(x, "six sectors and a byte", f0);
    Checks.spoilBoth4(x, f0 + 2, 33);
    Checks.spoilBoth4(x, f0 + 10, 7 * S);
    wrong(x, "from a blank one on", f0);
    Checks.spoilBoth4(x, f0 + 2, 40);
    Checks.spoilBoth4(x, f0 + 10, 1);
    wrong(x, "a byte behind the medium's end", f0);
    Checks.spoilBoth4(x, f0 + 2, 0);
    Checks.spoilBoth4(x, f0 + 10, 18 * S);
    Checks.due("from sector 0 on", x.mark(0, 3), 7);
    Checks.spoilBoth4(x, f0 + 2, -1);
    wrong(x, "from ahead of sector 0 on", f0);
    Checks.spoilBoth4(x, f0 + 2, 0);
    Checks.spoilBoth4(x, f0 + 10, 18 * S + 1);
    wrong(x, "into a blank sector", f0);
  }

  private static void sizesOfDirectories() {
    WriteOnceDisc x = sample();
    int[] sizes = {0, 1, 2047, 2049, -2048, Integer.MIN_VALUE};
    for (int size : sizes) {
      Checks.spoilBoth4(x, ROOT_E + 10, size);
      Checks.due("a directory of size " + size, x.mark(0, 3), -1 - ROOT_E);
    }
    Checks.spoilBoth4(x, ROOT_E + 10, 0);
    Checks.spoilBoth4(x, ROOT_E + 2, 0);
    Checks.due("a directory of no sector", x.mark(0, 3), -1 - ROOT_E);
    Checks.spoilBoth4(x, ROOT_E + 2, E / S);
    Checks.spoilBoth4(x, ROOT_E + 10, 3 * S);
    Checks.due("a directory into a blank sector", x.mark(0, 3), -1 - ROOT_E);
  }

  private static void badSectors() {
    WriteOnceDisc x = new WriteOnceDisc(100);
    x.defect(1);
    x.file(0, w("A"), 2049, 1);
    x.commit();
    int at = 24 * S + 68;
    Checks.due("it reads", x.mark(0, 3), 2);
    Checks.spoilBoth4(x, at + 2, 0);
    wrong(x, "a bad sector", at);
    Checks.spoilBoth4(x, at + 10, 2048);
    Checks.due("a written one", x.mark(0, 3), 2);
  }

  private static void firstAndSecondRecords() {
    Checks.part("a directory's first two records");
    WriteOnceDisc x = sample();
    Checks.spoilBoth4(x, D + 2, E / S);
    wrong(x, "another sector of itself", D);
    Checks.spoilBoth4(x, D + 2, D / S);
    Checks.spoilBoth4(x, D + 10, 4096);
    wrong(x, "another size of itself", D);
    Checks.spoilBoth4(x, D + 10, 2048);
    Checks.spoilBoth4(x, D + 34 + 2, D / S);
    wrong(x, "another parent", D + 34);
    Checks.spoilBoth4(x, D + 34 + 2, ROOT / S);
    Checks.spoilBoth4(x, D + 34 + 10, 4096);
    wrong(x, "another size of the parent", D + 34);
    Checks.spoilBoth4(x, D + 34 + 10, 2048);
    Checks.due("as it was", x.mark(0, 3), 6);
    Checks.spoilBoth4(x, ROOT + 34 + 2, D / S);
    wrong(x, "the root's parent is the root", ROOT + 34);
  }

  private static void directoriesWithoutRecords() {
    Checks.part("directories without their first records");
    spoilt("none in E", E, 0, E);
    spoilt("one in E", E + 34, 0, E);
    spoilt("none in D", D, 0, D);
    spoilt("none in the root", ROOT, 0, ROOT);
    spoilt("one in the root", ROOT + 34, 0, ROOT);
    WriteOnceDisc x = sample();
    x.spoil(D_F, 0);
    Checks.due("no node in D", x.mark(0, 3), 5);
    x.spoil(ROOT_Z, 0);
    Checks.due("no Z in the root", x.mark(0, 3), 4);
  }

  private static void risingIdentifiers() {
    Checks.part("rising identifiers");
    spoilt("E becomes D", ROOT_E + 33, 'D', ROOT_E);
    spoilt("E becomes C", ROOT_E + 33, 'C', ROOT_E);
    spoilt("A becomes E", ROOT_A + 33, 'E', ROOT_D);
    spoilt("Z becomes B", ROOT_Z + 33, 'B', ROOT_Z);
    stillReads("Z becomes E, a directory's name", ROOT_Z + 33, 'E');
    spoilt("A becomes D, a directory's name", ROOT_A + 33, 'D', ROOT_D);
    stillReads("F in D becomes A, each directory has its own order", D_F + 33, 'A');
    WriteOnceDisc x = sample();
    x.spoil(ROOT_Z + 33, 'E');
    Checks.due("discover", x.discover(), 1);
    Checks.due("both have the name", x.rename(3, 0, w("E")), WriteOnceDisc.NAMED);
    Checks.due("both have it", x.rename(4, 0, w("E")), WriteOnceDisc.NAMED);
    Checks.due("another", x.rename(3, 0, w("Q")), 0);
    Checks.due("then it is free", x.rename(4, 0, w("E")), 0);
  }

  private static void directoriesToldTwice() {
    Checks.part("directories that are told twice");
    WriteOnceDisc x = sample();
    Checks.spoilBoth4(x, ROOT_E + 2, D / S);
    wrong(x, "E is where D is", ROOT_E);
    Checks.spoilBoth4(x, ROOT_E + 2, ROOT / S);
    wrong(x, "E is the root", ROOT_E);
    Checks.spoilBoth4(x, ROOT_E + 2, E / S);
    Checks.spoilBoth4(x, ROOT_D + 10, 2 * S);
    wrong(x, "D reaches into E", ROOT_E);
    Checks.spoilBoth4(x, ROOT_D + 10, S);
    Checks.spoilBoth4(x, DESCRIPTOR + 156 + 10, 2 * S);
    Checks.spoilBoth4(x, ROOT + 10, 2 * S);
    Checks.spoilBoth4(x, ROOT + 44, 2 * S);
    wrong(x, "the root reaches into D", ROOT_D);
  }

  /** Files are not asked whose sectors they have; a directory that comes behind them may have one of these. */
  private static void directoriesAndFilesInOneSector() {
    Checks.part("directories and files in one sector");
    WriteOnceDisc x = sample();
    Checks.spoilBoth4(x, ROOT_A + 10, 2 * S);
    Checks.spoilBoth4(x, ROOT_A + 2, D / S);
    Checks.due("A has the sectors of D and E, which come behind it", x.mark(0, 3), 6);
    Checks.spoilBoth4(x, D_F + 2, ROOT / S);
    Checks.due("F has the root's", x.mark(0, 3), 6);
    Checks.spoilBoth4(x, D_F + 2, 0);
    Checks.due("two files have the same", x.mark(0, 3), 6);
    Checks.due("discover", x.discover(), 1);
    // E is told where D's first sector is, and reaches no further than D; then D from E on
    WriteOnceDisc y = sample();
    Checks.spoilBoth4(y, ROOT_D + 2, E / S);
    Checks.spoilBoth4(y, ROOT_E + 2, D / S);
    Checks.spoilBoth4(y, ROOT_E + 10, 2 * S);
    wrong(y, "E reaches into D, which was told before", ROOT_E);
    Checks.spoilBoth4(y, ROOT_E + 10, S);
    wrong(y, "E ends ahead of D", LOW + 12);
  }

  /** Nothing says that directories lie on the medium as they stand in the path table. */
  private static void directoriesInAnotherOrder() {
    Checks.part("directories in another order");
    WriteOnceDisc x = sample();
    Checks.spoilBoth4(x, ROOT_D + 2, E / S);
    Checks.spoilBoth4(x, ROOT_E + 2, D / S);
    wrong(x, "L says the old sectors", LOW + 12);
    x.spoil(LOW + 12, E / S);
    x.spoil(LOW + 22, D / S);
    wrong(x, "M says the old sectors", HIGH + 15);
    x.spoil(HIGH + 15, E / S);
    x.spoil(HIGH + 25, D / S);
    Checks.due("it reads", x.mark(0, 3), 6);
    x.open(0);
    Checks.due("now F lies in the one that E was", x.node(5, 0), 3);
  }

  private static void directoriesInThemselves() {
    Checks.part("a directory in itself");
    WriteOnceDisc x = new WriteOnceDisc(100);
    x.directory(0, w("A"));
    x.directory(1, w("B"));
    x.directory(2, w("C"));
    x.commit();
    int a = 21 * S;
    int b = 22 * S;
    Checks.spoilBoth4(x, b + 68 + 2, 22);
    wrong(x, "C is B", b + 68);
    Checks.spoilBoth4(x, b + 68 + 2, 21);
    wrong(x, "C is A", b + 68);
    Checks.spoilBoth4(x, b + 68 + 2, 23);
    Checks.spoilBoth4(x, a + 68 + 2, 23);
    wrong(x, "B is where C is, whose records say otherwise", 23 * S + 34);
  }

  /** A root of two sectors, made of a session's root and of a directory behind it that is told no more. */
  private static void longDirectories() {
    Checks.part("a directory of two sectors");
    WriteOnceDisc x = new WriteOnceDisc(100);
    x.directory(0, w("A"));
    x.commit();
    int root = 20 * S;
    int second = 21 * S;
    Checks.spoilBoth4(x, 16 * S + 156 + 10, 2 * S);
    Checks.spoilBoth4(x, root + 10, 2 * S);
    Checks.spoilBoth4(x, root + 44, 2 * S);
    x.spoil(root + 68, 0);
    wrong(x, "the second sector's records are nodes", second);
    x.spoil(second + 25, 0);
    x.spoil(second, 38);
    Checks.spoilBoth4(x, second + 2, 0);
    Checks.spoilBoth4(x, second + 10, 0);
    x.spoil(second + 32, 4);
    Checks.spoilText(x, second + 33, "B.;1");
    x.spoil(second + 37, 0);
    x.spoil(second + 38, 0);
    wrong(x, "the path table still has A", 16 * S + 132);
    Checks.spoilBoth4(x, 16 * S + 132, 10);
    Checks.due("a node of the second sector", x.mark(0, 3), 2);
    Checks.due("open", x.open(0), 2);
    Checks.due("its name", x.name(1), w("B"));
    Checks.due("the root's size", x.node(0, 2), 2 * S);
    x.spoil(second, 0);
    Checks.due("a byte 0 at the last sector's beginning", x.mark(0, 3), 1);
    x.spoil(root, 0);
    wrong(x, "no record at all", root);
    x.spoil(second, 38);
    wrong(x, "the first record is in the second sector, then", second);
  }

  private static void directoriesAmongOtherBytes() {
    Checks.part("a directory where none is");
    WriteOnceDisc x = new WriteOnceDisc(100);
    x.file(0, w("A"), 6000, 1);
    x.commit();
    int rootRecord = 19 * S + 156;
    Checks.spoilBoth4(x, rootRecord + 2, 0);
    wrong(x, "among a file's bytes", 0);
    x.spoil(0, 34);
    wrong(x, "a record of a file's bytes", 0);
    x.spoil(0, 0);
    wrong(x, "a byte 0", 0);
    Checks.spoilBoth4(x, rootRecord + 2, 20);
    wrong(x, "in the end's sector", 20 * S);
  }

  private static void tooDeep() {
    Checks.part("too deep");
    WriteOnceDisc x = new WriteOnceDisc(100);
    for (int i = 0; i < 6; i++) x.directory(i, w("D"));
    x.file(6, w("F"), 0, 1);
    x.directory(0, w("E"));
    x.commit();
    Checks.due("six deep", x.mark(0, 3), 9);
    // E, the second directory of the root, is told by the sixth instead
    int sixth = 20 * S + 7 * S;
    Checks.due("the sixth directory", x.byteAt(sixth + 2), 27);
    int at = sixth + 68;
    x.spoil(at, 34);
    x.spoil(at + 25, 2);
    x.spoil(at + 32, 1);
    x.spoil(at + 33, 'F');
    x.spoil(at + 34, 0);
    Checks.spoilBoth4(x, at + 2, 22);
    Checks.spoilBoth4(x, at + 10, S);
    x.spoil(20 * S + 68 + 34, 0);
    wrong(x, "a directory in seven others", at);
  }

  private static void tooManyNodes() {
    Checks.part("too many nodes");
    WriteOnceDisc x = new WriteOnceDisc(100);
    for (int i = 10; i < 38; i++) x.file(0, w("F" + i), 0, 0);
    x.directory(0, w("G"));
    x.commit();
    Checks.due("thirty", x.mark(0, 3), 30);
    int g = 21 * S;
    copyRecord(x, 20 * S + 68, g + 68, 40);
    wrong(x, "thirty-one", g + 68);
    x.spoil(20 * S + 68 + 28 * 40, 0);
    Checks.due("the directory is not told any more", x.mark(0, 3), -1 - (16 * S + 132));
  }

  private static void copyRecord(WriteOnceDisc x, int from, int to, int length) {
    for (int i = 0; i < length; i++) x.spoil(to + i, x.byteAt(from + i));
  }

  private static void pathTables() {
    Checks.part("path tables");
    for (int i = 0; i < 30; i++) {
      spoilt("L, byte " + i, LOW + i, 99, LOW + i);
      spoilt("M, byte " + i, HIGH + i, 99, HIGH + i);
    }
    WriteOnceDisc x = sample();
    x.spoil(HIGH, 9);
    x.spoil(LOW + 20, 9);
    x.spoil(LOW + 25, 9);
    Checks.spoilBoth4(x, DESCRIPTOR + 132, 10);
    wrong(x, "L goes first, its first byte", LOW + 20);
    x.spoil(LOW + 20, 1);
    wrong(x, "its next", LOW + 25);
    x.spoil(LOW + 25, 0);
    wrong(x, "then M", HIGH);
    x.spoil(HIGH, 1);
    wrong(x, "then the length", DESCRIPTOR + 132);
    WriteOnceDisc y = sample();
    y.spoil(ROOT_E, 0);
    wrong(y, "a directory that is not there", DESCRIPTOR + 132);
  }

  private static void longestPathTable() {
    Checks.part("the longest path table");
    int length = 10 + 29 * 16;
    int[] places = {0, 9, 10, 45, 46, 47, 255, 256, 449, 450, 451, length - 2, length - 1};
    for (int low = 0; low < 2; low++) {
      for (int place : places) {
        WriteOnceDisc x = thirtyDirectories();
        int at = (low == 0 ? 18 : 19) * S + place;
        x.spoil(at, x.byteAt(at) + 1);
        wrong(x, "byte " + place, at);
      }
      stillReadsBehind((low == 0 ? 18 : 19) * S + length);
    }
    int[] lengths = {length - 1, length + 1, length - 16, length + 16, 2048, 0};
    for (int said : lengths) {
      WriteOnceDisc x = thirtyDirectories();
      Checks.spoilBoth4(x, 16 * S + 132, said);
      wrong(x, "said to have " + said + " bytes", 16 * S + 132);
    }
  }

  private static void stillReadsBehind(int address) {
    WriteOnceDisc x = thirtyDirectories();
    x.spoil(address, 7);
    Checks.due("the byte behind the table", x.mark(0, 3), 30);
  }

  private static WriteOnceDisc thirtyDirectories() {
    WriteOnceDisc x = new WriteOnceDisc(100);
    for (int i = 10; i < 39; i++) x.directory(0, w("LONGES" + i));
    Checks.due("commit", x.commit(), 1);
    return x;
  }

  private static void whatReadingLeavesAlone() {
    Checks.part("what reading leaves alone");
    WriteOnceDisc x = sample();
    x.commit();
    x.open(0);
    x.spoil((x.mark(1, 1) + 17) * S, 1);
    x.remove(5);
    int writes = x.writes();
    Checks.due("a wrong session", x.mark(1, 3), -1 - (x.mark(1, 1) + 17) * S);
    Checks.due("what is open stays", x.name(5), w("F"));
    Checks.due("the tree stays", x.tree(4, 2), 100);
    Checks.none("its changes too", () -> x.tree(5, 0));
    Checks.due("opened", x.open(1), -1 - (x.mark(1, 1) + 17) * S);
    Checks.due("the tree stays then", x.tree(4, 3), 2);
    Checks.due("nothing is written", x.writes(), writes);
    Checks.due("the number is told by what was completed", x.commit(), 3);
  }

  private static void theFirstThatIsWrong() {
    Checks.part("the first that is wrong");
    WriteOnceDisc x = sample();
    int[] places = {LOW + 3, E, D_F, D, ROOT_Z, ROOT_D, ROOT, DESCRIPTOR + 156, DESCRIPTOR + 148, DESCRIPTOR + 140, DESCRIPTOR + 132, DESCRIPTOR + 128, END, DESCRIPTOR};
    for (int place : places) {
      x.spoil(place, 33);
      Checks.due("place " + place, x.mark(0, 3), -1 - place);
    }
  }
}
