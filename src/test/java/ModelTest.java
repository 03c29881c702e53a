import java.util.NoSuchElementException;
import java.util.Random;

/** Long runs of drawn calls, each answer held against the model's; the seeds are fixed, so the runs are the same each time. */
public final class ModelTest {
  private static final String[] NAMES = {"A", "B", "AB", "A0", "A_", "ABC", "Z", "_", "0", "ABCDEFGH", "ABCDEFG", "ABCDEFGI", "README", "DOC", "X1"};
  private static final int[] FIELDS = {0, 1, 2, 5, 6, 9, 10, 11, 13, 14, 17, 18, 25, 27, 28, 29, 30, 31, 32, 33, 34, 35, 37, 40, 41, 42, 43};
  private static final int[] DESCRIPTOR_FIELDS = {0, 1, 5, 6, 7, 80, 128, 129, 130, 131, 132, 133, 135, 136, 139, 140, 143, 147, 148, 151, 155};
  private static final int CALLS = 500;

  private final Random random;
  private final WriteOnceDisc disc;
  private final Model model;
  private final int sectors;
  private int calls = 0;

  private ModelTest(long seed) {
    random = new Random(seed);
    int[] sizes = {40, 64, 100, 150, 200, 200, 200, 7};
    int n = sizes[random.nextInt(sizes.length)];
    sectors = n < 40 ? 100 : n;
    disc = new WriteOnceDisc(n);
    model = new Model(n);
  }

  public static void main(String[] args) {
    int runs = args.length > 0 ? Integer.parseInt(args[0]) : 3000;
    for (int seed = 0; seed < runs; seed++) {
      Checks.part("run " + seed);
      new ModelTest(seed).run();
    }
    Checks.finish();
  }

  private void run() {
    int style = random.nextInt(4);
    while (calls < CALLS) {
      int draw = random.nextInt(100);
      if (draw < (style == 0 ? 60 : 30)) change();
      else if (draw < (style == 0 ? 63 : 45)) write();
      else if (draw < 70 && style >= 2) spoil();
      else if (draw < 74) trouble();
      else look();
    }
    // More calls than the document speaks of: only here, so that no byte of the medium goes unseen.
    for (int s = 0; s < sectors; s++) {
      for (int i = 0; model.state(s) == 1 && i < Checks.SECTOR; i++) {
        int a = s * Checks.SECTOR + i;
        Checks.due("byteAt " + a + " at the end", disc.byteAt(a), model.byteAt(a));
      }
    }
  }

  private int same(String what, Checks.Call ours, Checks.Call theirs) {
    calls++;
    String got = answer(ours);
    String want = answer(theirs);
    if (!got.equals(want)) Checks.tell("call " + calls + ", " + what + " answered " + got + ", the model " + want);
    Checks.due("", 0, 0);
    return want.equals("none") ? -1 : (int) Long.parseLong(want);
  }

  private static String answer(Checks.Call call) {
    try {
      return Long.toString(call.answer());
    } catch (NoSuchElementException e) {
      return "none";
    }
  }

  private long word() {
    if (random.nextInt(40) == 0) return random.nextLong();
    if (random.nextInt(60) == 0) return 0;
    long word = Checks.word(NAMES[random.nextInt(NAMES.length)]);
    return random.nextInt(20) == 0 && word < 1L << 48 ? word << 16 : word;
  }

  private int number() {
    int draw = random.nextInt(20);
    return draw == 0 ? random.nextInt() : draw < 8 ? random.nextInt(4) : random.nextInt(40) - 1;
  }

  private int size() {
    int[] sizes = {0, 1, 100, 2047, 2048, 2049, 4096, 6000, 6001, -1};
    return random.nextInt(3) == 0 ? sizes[random.nextInt(sizes.length)] : random.nextInt(3000);
  }

  private int seed() {
    return random.nextInt(30) == 0 ? 256 - random.nextInt(2) * 257 : random.nextInt(256);
  }

  private void change() {
    int in = random.nextInt(3) == 0 ? 0 : number();
    int k = number();
    long word = word();
    int size = size();
    int seed = seed();
    switch (random.nextInt(7)) {
      case 0:
      case 1: same("directory " + in + " " + word, () -> disc.directory(in, word), () -> model.directory(in, word)); break;
      case 2:
      case 3:
        same("file " + in + " " + word + " " + size, () -> disc.file(in, word, size, seed), () -> model.file(in, word, size, seed));
        break;
      case 4: same("replace " + k, () -> disc.replace(k, size, seed), () -> model.replace(k, size, seed)); break;
      case 5: same("remove " + k, () -> disc.remove(k), () -> model.remove(k)); break;
      default: same("rename " + k + " " + in, () -> disc.rename(k, in, word), () -> model.rename(k, in, word)); break;
    }
  }

  private void write() {
    int draw = random.nextInt(10);
    if (draw < 5) same("commit", disc::commit, model::commit);
    else if (draw < 7) same("compact", disc::compact, model::compact);
    else same("discover", disc::discover, model::discover);
  }

  private void trouble() {
    calls++;
    if (random.nextInt(3) == 0) {
      int n = random.nextInt(20) == 0 ? random.nextInt() : random.nextInt(40) - 8;
      disc.power(n);
      model.power(n);
    } else {
      int s = random.nextInt(sectors + 2) - 1;
      Checks.due("defect " + s, disc.defect(s), model.defect(s));
    }
  }

  private void look() {
    int i = random.nextInt(5) - 1;
    int what = random.nextInt(6) - 1;
    int k = random.nextInt(10) == 0 ? number() : random.nextInt(8);
    int place = random.nextInt(4) == 0 ? random.nextInt() : random.nextInt(3000);
    int s = random.nextInt(sectors + 2) - 1;
    int a = s * Checks.SECTOR + random.nextInt(random.nextBoolean() ? 200 : Checks.SECTOR);
    switch (random.nextInt(10)) {
      case 0: same("mark " + i + " " + what, () -> disc.mark(i, what), () -> model.mark(i, what)); break;
      case 1: same("open " + i, () -> disc.open(i), () -> model.open(i)); break;
      case 2:
      case 3: same("node " + k + " " + what, () -> disc.node(k, what), () -> model.node(k, what)); break;
      case 4: same("name " + k, () -> disc.name(k), () -> model.name(k)); break;
      case 5: same("read " + k + " " + place, () -> disc.read(k, place), () -> model.read(k, place)); break;
      case 6: same("state " + s, () -> disc.state(s), () -> model.state(s)); break;
      case 7: same("byteAt " + a, () -> disc.byteAt(a), () -> model.byteAt(a)); break;
      case 8: same("writes", disc::writes, model::writes); break;
      default: same("tree " + k + " " + what, () -> disc.tree(k, what), () -> model.tree(k, what)); break;
    }
  }

  private int put(int address, int value) {
    return same("spoil " + address + " " + value, () -> disc.spoil(address, value), () -> model.spoil(address, value));
  }

  private void putBoth(int address, int bytes, int value) {
    for (int i = 0; i < bytes; i++) {
      put(address + i, value >> 8 * i);
      put(address + 2 * bytes - 1 - i, value >> 8 * i);
    }
  }

  /** Spoils something that reading looks at, asks what it says of it, and mostly takes it back. */
  private void spoil() {
    int i = random.nextInt(3);
    int mark;
    try {
      mark = model.mark(i, 0);
    } catch (NoSuchElementException e) {
      return;
    }
    int base = model.mark(i, 1);
    int what = random.nextInt(12);
    if (what == 0) spoilOne(i, mark * Checks.SECTOR + random.nextInt(13), random.nextInt(256));
    else if (what == 1) spoilOne(i, (base + 16) * Checks.SECTOR + DESCRIPTOR_FIELDS[random.nextInt(DESCRIPTOR_FIELDS.length)], random.nextInt(256));
    else if (what == 2) spoilOne(i, (base + 16 + random.nextInt(4)) * Checks.SECTOR + random.nextInt(60), random.nextInt(3));
    else if (what == 3) spoilOne(i, (base + 16) * Checks.SECTOR + 156 + FIELDS[random.nextInt(FIELDS.length)], random.nextInt(5));
    else if (mark > base + 20) spoilRecord(i, base + 20 + random.nextInt(mark - base - 20), base, mark);
  }

  private void spoilOne(int i, int address, int value) {
    int was = put(address, value);
    ask(i);
    if (random.nextInt(8) != 0) put(address, was);
  }

  private void ask(int i) {
    same("mark " + i + " 3 of a spoilt session", () -> disc.mark(i, 3), () -> model.mark(i, 3));
    if (random.nextInt(3) == 0) same("open " + i + " of a spoilt session", () -> disc.open(i), () -> model.open(i));
    if (random.nextInt(12) == 0) same("discover of a spoilt session", disc::discover, model::discover);
  }

  private void spoilRecord(int i, int sector, int base, int mark) {
    int at = sector * Checks.SECTOR;
    for (int skip = random.nextInt(6); skip > 0 && model.byteAt(at + model.byteAt(at)) > 0; skip--) at += model.byteAt(at);
    int[] sectorsToSay = {0, base + 16, base + 20, base + 21, base + 22, mark, mark - 1, sectors - 1, sectors, -1};
    int[] sizesToSay = {0, 1, 2048, 4096, 6144, 2049, 100000, -1, Integer.MIN_VALUE, Integer.MAX_VALUE};
    switch (random.nextInt(6)) {
      case 0:
        putBoth(at + 2, 4, sectorsToSay[random.nextInt(sectorsToSay.length)]);
        ask(i);
        break;
      case 1:
        putBoth(at + 10, 4, sizesToSay[random.nextInt(sizesToSay.length)]);
        ask(i);
        break;
      case 2:
        // a directory that goes on in the next sectors, told so everywhere
        putBoth(at + 10, 4, 4096);
        putBoth((base + 16) * Checks.SECTOR + 166, 4, 4096);
        putBoth((base + 20) * Checks.SECTOR + 10, 4, 4096);
        putBoth((base + 20) * Checks.SECTOR + 44, 4, 4096);
        ask(i);
        break;
      case 3:
        spoilOne(i, at + 33 + random.nextInt(11), "ABZ_0.;1a ".charAt(random.nextInt(10)));
        break;
      default:
        spoilOne(i, at + FIELDS[random.nextInt(FIELDS.length)], random.nextBoolean() ? random.nextInt(5) : random.nextInt(256));
        break;
    }
  }
}
