/** Promises 2, 3, 12, 13, 14 and 15: defects, power, and looking at the medium. */
public final class MediumTest {
  private static final int NONE = WriteOnceDisc.NONE, FULL = WriteOnceDisc.FULL, LOST = WriteOnceDisc.LOST;

  public static void main(String[] args) {
    defects();
    defectsOfWrittenSectors();
    power();
    powerGoesInAnExtent();
    powerForTheMostWrites();
    powerComesBackByDiscoveryAlone();
    powerThatIsNotLostGoesOn();
    badSectorsHaveBytesZero();
    stateAndBytes();
    spoiling();
    spoilingTheEdgesOfASector();
    writes();
    Checks.finish();
  }

  private static void defects() {
    Checks.part("defect");
    WriteOnceDisc x = new WriteOnceDisc(100);
    Checks.due("defect(-1)", x.defect(-1), false);
    Checks.due("defect(100)", x.defect(100), false);
    Checks.due("defect(MIN)", x.defect(Integer.MIN_VALUE), false);
    Checks.due("defect(MAX)", x.defect(Integer.MAX_VALUE), false);
    Checks.due("defect(0)", x.defect(0), true);
    Checks.due("defect(99)", x.defect(99), true);
    Checks.due("defect(0) again", x.defect(0), true);
    Checks.due("a defect is not seen before the write", x.state(0), 0);
    x.file(0, Checks.word("A"), 1, 77);
    Checks.due("commit", x.commit(), 1);
    Checks.due("state(0)", x.state(0), 2);
    Checks.due("byteAt(0) of a bad sector", x.byteAt(0), 0);
    Checks.due("extent", x.tree(1, 4), 1);
    Checks.due("byteAt(2048)", x.byteAt(2048), 77);
    Checks.due("defect of a bad sector", x.defect(0), true);
    Checks.due("state(0) still", x.state(0), 2);
  }

  private static void defectsOfWrittenSectors() {
    Checks.part("defect of a written sector");
    WriteOnceDisc x = new WriteOnceDisc(100);
    x.commit();
    Checks.due("defect(16)", x.defect(16), true);
    Checks.due("state(16)", x.state(16), 1);
    Checks.due("open", x.open(0), 1);
    Checks.due("byteAt(16 * 2048)", x.byteAt(16 * 2048), 1);
  }

  private static void power() {
    Checks.part("power");
    for (int n = 0; n < 6; n++) {
      WriteOnceDisc x = new WriteOnceDisc(100);
      x.power(n);
      Checks.due("commit with power for " + n, x.commit(), LOST);
      for (int s = 16; s <= 22; s++) {
        Checks.due("state " + s + ", power for " + n, x.state(s), s < 16 + n ? 1 : s == 16 + n ? 2 : 0);
      }
      Checks.due("writes", x.writes(), n + 1);
      Checks.due("commit again", x.commit(), LOST);
      Checks.due("writes still", x.writes(), n + 1);
    }
    WriteOnceDisc x = new WriteOnceDisc(100);
    x.power(6);
    Checks.due("commit with power for 6", x.commit(), 1);
    Checks.due("the next one", x.commit(), LOST);
    WriteOnceDisc y = new WriteOnceDisc(100);
    y.power(0);
    y.power(-1);
    Checks.due("commit with power for ever", y.commit(), 1);
    y.power(3);
    y.power(Integer.MIN_VALUE);
    Checks.due("commit with power for ever again", y.commit(), 2);
    WriteOnceDisc z = new WriteOnceDisc(100);
    z.defect(16);
    z.power(1);
    Checks.due("a bad sector's write spends power", z.commit(), LOST);
    Checks.due("state(16)", z.state(16), 2);
    Checks.due("state(33), behind the new base 17", z.state(33), 2);
  }

  /** Nothing is written behind the sector in which power went, though a session would have had room. */
  private static void powerGoesInAnExtent() {
    Checks.part("power goes in an extent");
    for (int n = 0; n <= 4; n++) {
      WriteOnceDisc x = new WriteOnceDisc(100);
      x.file(0, Checks.word("B"), 1, 1);
      x.file(0, Checks.word("A"), 6000, 2);
      x.power(n);
      Checks.due("commit with power for " + n, x.commit(), LOST);
      Checks.due("writes", x.writes(), n + 1);
      int bad = n < 4 ? n : 4 + 16;
      for (int s = 0; s < 30; s++) {
        Checks.due("state " + s + ", power for " + n, x.state(s), s == bad ? 2 : s < n && s < 4 ? 1 : 0);
      }
      Checks.due("extent of one that is not whole", x.tree(2, 4), n < 4 ? 0 : 1);
      Checks.due("file", x.file(0, Checks.word("C"), 1, 1), LOST);
    }
  }

  private static void powerForTheMostWrites() {
    Checks.part("power for the most writes");
    WriteOnceDisc x = new WriteOnceDisc(100);
    x.power(Integer.MAX_VALUE);
    Checks.due("commit", x.commit(), 1);
    x.power(1);
    x.power(6);
    Checks.due("what was told last counts", x.commit(), 2);
    x.power(5);
    Checks.due("one too few", x.commit(), LOST);
  }

  private static void badSectorsHaveBytesZero() {
    Checks.part("bad sectors have bytes 0");
    WriteOnceDisc x = new WriteOnceDisc(100);
    x.defect(0);
    x.power(1);
    x.file(0, Checks.word("A"), 2048, 77);
    Checks.due("commit", x.commit(), LOST);
    for (int s = 0; s < 2; s++) {
      Checks.due("state " + s, x.state(s), 2);
      int[] places = {0, 1, 1000, 2047};
      for (int i : places) {
        Checks.due("byte " + i + " of " + s, x.byteAt(s * 2048 + i), 0);
        Checks.due("spoil byte " + i + " of " + s, x.spoil(s * 2048 + i, 5), NONE);
        Checks.due("byte " + i + " of " + s + " then", x.byteAt(s * 2048 + i), 0);
      }
    }
    Checks.due("state 2", x.state(2), 0);
  }

  private static void powerComesBackByDiscoveryAlone() {
    Checks.part("power that was lost");
    WriteOnceDisc x = new WriteOnceDisc(100);
    x.power(2);
    Checks.due("commit", x.commit(), LOST);
    x.power(-1);
    Checks.due("power() is no discovery", x.commit(), LOST);
    x.power(0);
    Checks.due("discover", x.discover(), 0);
    Checks.due("it lasts for ever again", x.commit(), 1);
  }

  private static void powerThatIsNotLostGoesOn() {
    Checks.part("power that is not lost");
    WriteOnceDisc x = new WriteOnceDisc(100);
    x.power(8);
    Checks.due("commit", x.commit(), 1);
    Checks.due("discover", x.discover(), 1);
    Checks.due("two writes are left", x.commit(), LOST);
    Checks.due("writes", x.writes(), 9);
  }

  private static void stateAndBytes() {
    Checks.part("state and byteAt");
    WriteOnceDisc x = new WriteOnceDisc(100);
    x.defect(2);
    x.file(0, Checks.word("F"), 2050, 250);
    x.commit();
    Checks.due("state(-1)", x.state(-1), NONE);
    Checks.due("state(MIN)", x.state(Integer.MIN_VALUE), NONE);
    Checks.due("state(100)", x.state(100), NONE);
    Checks.due("state(MAX)", x.state(Integer.MAX_VALUE), NONE);
    Checks.due("state(0)", x.state(0), 1);
    Checks.due("state(1)", x.state(1), 1);
    Checks.due("state(2), the defect is not met", x.state(2), 0);
    Checks.due("byteAt(-1)", x.byteAt(-1), NONE);
    Checks.due("byteAt(MIN)", x.byteAt(Integer.MIN_VALUE), NONE);
    Checks.due("byteAt(MAX)", x.byteAt(Integer.MAX_VALUE), NONE);
    Checks.due("byteAt(204800)", x.byteAt(204800), NONE);
    Checks.due("byteAt(204799)", x.byteAt(204799), 0);
    int[] places = {0, 1, 2, 127, 128, 129, 255, 256, 2047, 2048, 2049};
    for (int i : places) Checks.due("byteAt " + i, x.byteAt(i), Checks.content(250, i));
    Checks.due("behind the file's end", x.byteAt(2050), 0);
    Checks.due("the sector's last byte", x.byteAt(4095), 0);
  }

  private static void spoiling() {
    Checks.part("spoil");
    WriteOnceDisc x = new WriteOnceDisc(100);
    x.defect(1);
    x.file(0, Checks.word("F"), 2049, 9);
    x.commit();
    Checks.due("a byte", x.spoil(3, 200), Checks.content(9, 3));
    Checks.due("it is another one", x.byteAt(3), 200);
    Checks.due("its neighbour", x.byteAt(4), Checks.content(9, 4));
    Checks.due("its lowest eight bits", x.spoil(3, 0x12345), 200);
    Checks.due("0x45", x.byteAt(3), 0x45);
    Checks.due("below 0", x.spoil(3, -1), 0x45);
    Checks.due("255", x.spoil(3, 0), 255);
    Checks.due("a bad sector", x.spoil(2048, 7), NONE);
    Checks.due("a bad sector's byte", x.byteAt(2048), 0);
    Checks.due("a blank sector", x.spoil(50 * 2048, 7), NONE);
    Checks.due("a blank sector's byte", x.byteAt(50 * 2048), 0);
    Checks.due("ahead of the medium", x.spoil(-1, 7), NONE);
    Checks.due("far ahead", x.spoil(Integer.MIN_VALUE, 7), NONE);
    Checks.due("behind the medium", x.spoil(204800, 7), NONE);
    Checks.due("far behind", x.spoil(Integer.MAX_VALUE, 7), NONE);
    Checks.due("writes", x.writes(), 10);
    Checks.due("the extent was begun anew", x.tree(1, 4), 2);
    Checks.due("its last byte", x.spoil(4 * 2048 - 1, 1), 0);
  }

  private static void spoilingTheEdgesOfASector() {
    Checks.part("the edges of a written sector");
    WriteOnceDisc x = new WriteOnceDisc(40);
    x.commit();
    Checks.due("ahead of the first written byte", x.spoil(16 * 2048 - 1, 9), NONE);
    Checks.due("the first", x.spoil(16 * 2048, 9), 1);
    Checks.due("the last", x.spoil(22 * 2048 - 1, 9), 0);
    Checks.due("behind it", x.spoil(22 * 2048, 9), NONE);
    Checks.due("the first is another one", x.byteAt(16 * 2048), 9);
    Checks.due("the last is another one", x.byteAt(22 * 2048 - 1), 9);
    Checks.due("256 is 0", x.spoil(16 * 2048, 256), 9);
    Checks.due("-256 is 0", x.spoil(16 * 2048, -256), 0);
    Checks.due("255", x.spoil(16 * 2048, 255), 0);
    Checks.due("MIN is 0", x.spoil(16 * 2048, Integer.MIN_VALUE), 255);
    Checks.due("MAX is 255", x.spoil(16 * 2048, Integer.MAX_VALUE), 0);
    Checks.due("at last", x.byteAt(16 * 2048), 255);
    Checks.due("no write of it counts", x.writes(), 6);
  }

  private static void writes() {
    Checks.part("writes");
    WriteOnceDisc x = new WriteOnceDisc(60);
    x.commit();
    Checks.due("a session", x.writes(), 6);
    x.compact();
    Checks.due("of all media", x.writes(), 12);
    x.file(0, Checks.word("A"), 6000, 1);
    x.power(2);
    Checks.due("compact without power", x.compact(), LOST);
    Checks.due("of a medium that is gone", x.writes(), 15);
    x.discover();
    for (int i = 0; i < 13; i++) x.file(0, Checks.word("F" + i), 6000, i);
    Checks.due("compact without room", x.compact(), FULL);
    Checks.due("all extents went there", x.writes(), 15 + 39);
  }
}
