import java.util.NoSuchElementException;

/** What the tests share: counts answers that are not as due, and tells them. */
final class Checks {
  static final int SECTOR = 2048;

  private static int wrong = 0;
  private static long asked = 0;
  private static String part = "";

  interface Call {
    long answer();
  }

  private Checks() {
  }

  static void part(String name) {
    part = name;
  }

  static void due(String what, long got, long want) {
    asked++;
    if (got != want) tell(what + " answered " + got + ", due is " + want);
  }

  static void due(String what, boolean got, boolean want) {
    due(what, got ? 1 : 0, want ? 1 : 0);
  }

  static void none(String what, Call call) {
    asked++;
    try {
      tell(what + " answered " + call.answer() + ", due is NoSuchElementException");
    } catch (NoSuchElementException e) {
      // as due
    }
  }

  static void tell(String text) {
    wrong++;
    if (wrong <= 50) System.out.println(part + ": " + text);
  }

  /** A name as a word. */
  static long word(String name) {
    long word = 0;
    for (int i = 0; i < name.length(); i++) word = word << 8 | name.charAt(i);
    return word;
  }

  static int content(int seed, int i) {
    return (seed + 3 * i + i / 128) % 256;
  }

  static int low4(WriteOnceDisc x, int address) {
    return x.byteAt(address) | x.byteAt(address + 1) << 8 | x.byteAt(address + 2) << 16 | x.byteAt(address + 3) << 24;
  }

  static int high4(WriteOnceDisc x, int address) {
    return x.byteAt(address) << 24 | x.byteAt(address + 1) << 16 | x.byteAt(address + 2) << 8 | x.byteAt(address + 3);
  }

  static void spoilLow4(WriteOnceDisc x, int address, int value) {
    for (int i = 0; i < 4; i++) x.spoil(address + i, value >> 8 * i);
  }

  static void spoilBoth4(WriteOnceDisc x, int address, int value) {
    spoilLow4(x, address, value);
    for (int i = 0; i < 4; i++) x.spoil(address + 7 - i, value >> 8 * i);
  }

  static void spoilText(WriteOnceDisc x, int address, String text) {
    for (int i = 0; i < text.length(); i++) x.spoil(address + i, text.charAt(i));
  }

  static void finish() {
    System.out.println(wrong == 0 ? asked + " answers are as due" : wrong + " answers are not as due");
    if (wrong != 0) System.exit(1);
  }
}
