import java.util.NoSuchElementException;

/**
 * Each refused call: its answer, the order of the refusals, and that nothing else changes. For the
 * last, two objects are brought to the same state, the call is refused by one of them, and then
 * both answer alike whatever is asked.
 */
public final class RefusalsTest {
  private static final int NONE = WriteOnceDisc.NONE, WRONG = WriteOnceDisc.WRONG, FULL = WriteOnceDisc.FULL;
  private static final int LOST = WriteOnceDisc.LOST, NAMED = WriteOnceDisc.NAMED;
  /** Stands for NoSuchElementException among answers. */
  private static final long THROWN = Long.MIN_VALUE;
  private static final int MIN = Integer.MIN_VALUE, MAX = Integer.MAX_VALUE;

  /** The nodes of the sample; GONE was removed, NEVER was not given yet. */
  private static final int ROOT = 0, D = 1, F = 2, A = 3, E = 4, GONE = 5, NEVER = 6;
  private static final int[] NO_NODES = {-1, GONE, NEVER, MIN, MAX};
  private static final long[] NO_NAMES = {0, -1, w("a"), w("A."), w("A B"), w("ABCDEFG-"), 1, 1L << 63};
  private static final int[] NO_SIZES = {-1, 6001, MIN, MAX}, NO_SEEDS = {-1, 256, MIN, MAX};

  interface Steps {
    void on(WriteOnceDisc x);
  }

  interface Asked {
    long on(WriteOnceDisc x);
  }

  public static void main(String[] args) {
    Steps[] states = {RefusalsTest::sample, RefusalsTest::committed, RefusalsTest::discovered};
    for (Steps state : states) {
      directories(state);
      files(state);
      replacing(state);
      removing(state);
      renaming(state);
      looking(state);
    }
    thirtyNodes();
    tooDeep();
    powerLost();
    ordersOfNewNodes();
    ordersOfRenaming();
    spoilingAndDefects();
    committing();
    compacting();
    opening();
    Checks.finish();
  }

  private static long w(String name) {
    return Checks.word(name);
  }

  /** D with F and E in it, A of size 0, and one that is gone. */
  private static void sample(WriteOnceDisc x) {
    x.directory(0, w("D"));
    x.file(D, w("F"), 3000, 7);
    x.file(0, w("A"), 0, 1);
    x.directory(D, w("E"));
    x.file(0, w("G"), 5, 5);
    x.remove(GONE);
  }

  /** A session that is open, with bad sectors ahead of it; changes; power that will go. */
  private static void committed(WriteOnceDisc x) {
    sample(x);
    x.defect(1);
    x.defect(21);
    x.commit();
    x.open(0);
    x.replace(A, 10, 9);
    x.rename(F, D, w("H"));
    x.defect(60);
    x.power(30);
    x.rename(F, D, w("F"));
  }

  /** The sample as it was discovered, its nodes brought to the same numbers by removing and making some again. */
  private static void discovered(WriteOnceDisc x) {
    x.directory(0, w("D"));
    x.directory(D, w("F"));
    x.commit();
    x.discover();
    x.open(0);
    x.rename(F, 0, w("F"));
    x.file(0, w("A"), 0, 1);
    x.directory(D, w("E"));
    x.file(0, w("G"), 5, 5);
    x.remove(GONE);
    x.remove(F);
    x.file(D, w("F"), 3000, 7);
  }

  /** In the discovered state the file F has another number. */
  private static int fileIn(Steps state) {
    WriteOnceDisc x = new WriteOnceDisc(100);
    state.on(x);
    return answer(x, y -> y.tree(F, 1)) == 1 ? F : NEVER;
  }

  private static int[] noNodesIn(Steps state) {
    return fileIn(state) == F ? NO_NODES : new int[] {-1, F, GONE, NEVER + 1, MIN, MAX};
  }

  private static long answer(WriteOnceDisc x, Asked call) {
    try {
      return call.on(x);
    } catch (NoSuchElementException e) {
      return THROWN;
    }
  }

  private static void refused(String what, Steps state, long due, Asked call) {
    unchanged(what, state, due, call, RefusalsTest::treeOf, RefusalsTest::mediumOf, RefusalsTest::writesOf,
        RefusalsTest::openedOf, RefusalsTest::goingOn, RefusalsTest::mediumGoingOn, RefusalsTest::discovering,
        RefusalsTest::compactingThen);
  }

  interface Probe {
    String of(WriteOnceDisc x);
  }

  private static void unchanged(String what, Steps state, long due, Asked call, Probe... probes) {
    for (Probe probe : probes) {
      WriteOnceDisc refusing = new WriteOnceDisc(100);
      WriteOnceDisc twin = new WriteOnceDisc(100);
      state.on(refusing);
      state.on(twin);
      Checks.due(what, answer(refusing, call), due);
      String got = probe.of(refusing);
      String want = probe.of(twin);
      Checks.due(what + " changes nothing", got.equals(want), true);
      if (!got.equals(want)) System.out.println("  with it: " + got + "\n  without: " + want);
    }
  }

  private static void add(StringBuilder text, WriteOnceDisc x, Asked call) {
    text.append(answer(x, call)).append(' ');
  }

  private static String treeOf(WriteOnceDisc x) {
    StringBuilder text = new StringBuilder("tree ");
    for (int k = 0; k < 33; k++) {
      for (int what = 0; what < 5; what++) {
        int kk = k;
        int w = what;
        add(text, x, y -> y.tree(kk, w));
      }
    }
    return text.toString();
  }

  private static String mediumOf(WriteOnceDisc x) {
    StringBuilder text = new StringBuilder("medium ");
    for (int s = 0; s < 100; s++) {
      int state = x.state(s);
      text.append(state).append(' ');
      int[] places = {0, 33, 2047};
      for (int i : places) if (state != 0) text.append(x.byteAt(s * 2048 + i)).append(' ');
    }
    return text.toString();
  }

  private static String writesOf(WriteOnceDisc x) {
    return "writes " + x.writes();
  }

  private static String openedOf(WriteOnceDisc x) {
    StringBuilder text = new StringBuilder("opened ");
    for (int k = 0; k < 8; k++) {
      int kk = k;
      for (int what = 0; what < 4; what++) {
        int w = what;
        add(text, x, y -> y.node(kk, w));
        add(text, x, y -> y.mark(kk, w));
      }
      add(text, x, y -> y.name(kk));
      add(text, x, y -> y.read(kk, 0));
    }
    return text.toString();
  }

  /** New nodes, and sessions until power goes or there is no room: numbers, defects and power are as they were. */
  private static String goingOn(WriteOnceDisc x) {
    StringBuilder text = new StringBuilder("going on ");
    // where thirty nodes are there, the next number is seen only when some are gone
    for (int k = 28; k < 33; k++) {
      int kk = k;
      add(text, x, y -> y.remove(kk));
    }
    for (int i = 0; i < 4; i++) {
      String name = "NEXT" + i;
      add(text, x, y -> y.directory(0, w(name)));
      add(text, x, y -> y.file(0, w("X" + name), 100, 3));
      add(text, x, y -> y.commit());
      add(text, x, y -> y.writes());
    }
    return text + treeOf(x);
  }

  private static String mediumGoingOn(WriteOnceDisc x) {
    x.directory(0, w("NEXT"));
    x.file(0, w("XNEXT"), 100, 3);
    x.commit();
    return mediumOf(x);
  }

  private static String discovering(WriteOnceDisc x) {
    StringBuilder text = new StringBuilder("discovering ");
    add(text, x, y -> y.discover());
    add(text, x, y -> y.file(0, w("NEXT"), 100, 3));
    add(text, x, y -> y.commit());
    add(text, x, y -> y.commit());
    return text + treeOf(x) + writesOf(x);
  }

  private static String compactingThen(WriteOnceDisc x) {
    StringBuilder text = new StringBuilder("compacting ");
    add(text, x, y -> y.compact());
    add(text, x, y -> y.open(0));
    return text + openedOf(x) + treeOf(x) + writesOf(x);
  }

  private static void directories(Steps state) {
    Checks.part("directory");
    int file = fileIn(state);
    for (int in : noNodesIn(state)) refused("in " + in, state, WRONG, x -> x.directory(in, w("N")));
    refused("in a file", state, WRONG, x -> x.directory(file, w("N")));
    refused("in a file of size 0", state, WRONG, x -> x.directory(A, w("N")));
    for (long name : NO_NAMES) refused("name " + name, state, WRONG, x -> x.directory(D, name));
    refused("a directory's name", state, NAMED, x -> x.directory(0, w("D")));
    refused("a file's name", state, NAMED, x -> x.directory(D, w("F")));
    refused("a name told otherwise", state, NAMED, x -> x.directory(0, w("D") << 24));
  }

  private static void files(Steps state) {
    Checks.part("file");
    int file = fileIn(state);
    for (int in : noNodesIn(state)) refused("in " + in, state, WRONG, x -> x.file(in, w("N"), 1, 1));
    refused("in a file", state, WRONG, x -> x.file(file, w("N"), 1, 1));
    for (long name : NO_NAMES) refused("name " + name, state, WRONG, x -> x.file(D, name, 1, 1));
    for (int size : NO_SIZES) refused("size " + size, state, WRONG, x -> x.file(D, w("N"), size, 1));
    for (int seed : NO_SEEDS) refused("seed " + seed, state, WRONG, x -> x.file(D, w("N"), 1, seed));
    refused("a directory's name", state, NAMED, x -> x.file(0, w("D"), 1, 1));
    refused("a file's name", state, NAMED, x -> x.file(D, w("F"), 3000, 7));
  }

  private static void replacing(Steps state) {
    Checks.part("replace");
    int file = fileIn(state);
    for (int node : noNodesIn(state)) refused("node " + node, state, WRONG, x -> x.replace(node, 1, 1));
    refused("the root", state, WRONG, x -> x.replace(ROOT, 1, 1));
    refused("a directory", state, WRONG, x -> x.replace(D, 1, 1));
    for (int size : NO_SIZES) refused("size " + size, state, WRONG, x -> x.replace(file, size, 1));
    for (int seed : NO_SEEDS) refused("seed " + seed, state, WRONG, x -> x.replace(file, 1, seed));
  }

  private static void removing(Steps state) {
    Checks.part("remove");
    for (int node : noNodesIn(state)) refused("node " + node, state, WRONG, x -> x.remove(node));
    refused("the root", state, WRONG, x -> x.remove(ROOT));
    refused("a directory in which something is", state, WRONG, x -> x.remove(D));
  }

  private static void renaming(Steps state) {
    Checks.part("rename");
    int file = fileIn(state);
    for (int node : noNodesIn(state)) {
      refused("node " + node, state, WRONG, x -> x.rename(node, 0, w("N")));
      refused("into " + node, state, WRONG, x -> x.rename(file, node, w("N")));
    }
    for (long name : NO_NAMES) refused("name " + name, state, WRONG, x -> x.rename(file, D, name));
    refused("the root", state, WRONG, x -> x.rename(ROOT, D, w("N")));
    refused("the root into the root", state, WRONG, x -> x.rename(ROOT, ROOT, w("N")));
    refused("into a file", state, WRONG, x -> x.rename(A, file, w("N")));
    refused("a file into itself", state, WRONG, x -> x.rename(file, file, w("N")));
    refused("a directory into itself", state, WRONG, x -> x.rename(D, D, w("N")));
    refused("a directory into what lies in it", state, WRONG, x -> x.rename(D, E, w("N")));
    refused("a directory in which nothing is into itself", state, WRONG, x -> x.rename(E, E, w("N")));
    refused("to a directory's name", state, NAMED, x -> x.rename(A, 0, w("D")));
    refused("to a file's name", state, NAMED, x -> x.rename(E, D, w("F")));
    refused("to a name of another directory", state, NAMED, x -> x.rename(A, D, w("E")));
    refused("to its own name and place", state, 0, x -> x.rename(file, D, w("F")));
  }

  /** Looking at what there isn't. */
  private static void looking(Steps state) {
    Checks.part("looking");
    int[] sectors = {-1, 100, MIN, MAX};
    for (int s : sectors) refused("state " + s, state, NONE, x -> x.state(s));
    int[] addresses = {-1, 204800, MIN, MAX};
    for (int a : addresses) refused("byteAt " + a, state, NONE, x -> x.byteAt(a));
    int[] others = {-1, 9, MIN, MAX};
    for (int k : others) {
      refused("mark " + k, state, THROWN, x -> x.mark(k, 0));
      refused("mark 0, what " + k, state, THROWN, x -> x.mark(0, k));
      refused("open " + k, state, -1000000, x -> x.open(k));
      refused("node " + k, state, THROWN, x -> x.node(k, 0));
      refused("node 0, what " + k, state, THROWN, x -> x.node(0, k));
      refused("name " + k, state, THROWN, x -> x.name(k));
      refused("read " + k, state, THROWN, x -> x.read(k, 0));
      refused("read 0, byte " + k, state, THROWN, x -> x.read(0, k));
      refused("tree " + k, state, THROWN, x -> x.tree(k, 0));
      refused("tree 0, what " + k, state, THROWN, x -> x.tree(0, k));
    }
    refused("tree, what 5", state, THROWN, x -> x.tree(D, 5));
    refused("node, what 4", state, THROWN, x -> x.node(0, 4));
    refused("mark, what 4", state, THROWN, x -> x.mark(0, 4));
    refused("tree of what is gone", state, THROWN, x -> x.tree(GONE, 0));
  }

  private static void thirtyNodes(WriteOnceDisc x) {
    for (int i = 1; i < 30; i++) {
      if (i % 3 == 0) x.directory(0, w("N" + i));
      else x.file(i / 3 * 3, w("N" + i), 0, i);
    }
  }

  private static void thirtyNodes() {
    Checks.part("thirty nodes");
    refused("directory", RefusalsTest::thirtyNodes, FULL, x -> x.directory(0, w("M")));
    refused("file", RefusalsTest::thirtyNodes, FULL, x -> x.file(0, w("M"), 1, 1));
    refused("file in another", RefusalsTest::thirtyNodes, FULL, x -> x.file(3, w("M"), 0, 0));
    refused("NAMED goes first", RefusalsTest::thirtyNodes, NAMED, x -> x.directory(0, w("N3")));
    Steps another = x -> {
      thirtyNodes(x);
      x.remove(29);
      x.file(0, w("L"), 0, 0);
    };
    refused("after one was given for another", another, FULL, x -> x.file(0, w("M"), 1, 1));
    Steps fewer = x -> {
      thirtyNodes(x);
      x.remove(29);
    };
    WriteOnceDisc x = new WriteOnceDisc(100);
    fewer.on(x);
    Checks.due("with twenty-nine", x.directory(0, w("M")), 30);
  }

  /** Directories 1 to 6, one in the other; 7 with 8 in it; the file 9. */
  private static void deep(WriteOnceDisc x) {
    for (int i = 0; i < 6; i++) x.directory(i, w("D"));
    x.directory(0, w("E"));
    x.directory(7, w("E"));
    x.file(8, w("F"), 1, 1);
  }

  private static void tooDeep() {
    Checks.part("too deep");
    Steps state = RefusalsTest::deep;
    refused("a directory in 7 others", state, WRONG, x -> x.directory(6, w("N")));
    refused("renamed into the sixth", state, WRONG, x -> x.rename(8, 6, w("N")));
    refused("two levels into the fifth", state, WRONG, x -> x.rename(7, 5, w("N")));
    refused("two levels into the sixth", state, WRONG, x -> x.rename(7, 6, w("N")));
    refused("six levels into one", state, WRONG, x -> x.rename(1, 7, w("N")));
    refused("five levels into two", state, WRONG, x -> x.rename(2, 8, w("N")));
    long[] right = {0, 0, 0, 10};
    Asked[] calls = {
      x -> x.rename(8, 5, w("N")), x -> x.rename(7, 4, w("N")), x -> x.rename(3, 8, w("N")), x -> x.directory(5, w("N")),
    };
    for (int i = 0; i < calls.length; i++) {
      WriteOnceDisc x = new WriteOnceDisc(100);
      state.on(x);
      Checks.due("the deepest that is right, " + i, calls[i].on(x), right[i]);
      Checks.due("commit", x.commit(), 1);
      Checks.due("it reads", x.mark(0, 3), i < 3 ? 10 : 11);
    }
  }

  private static void lost(WriteOnceDisc x) {
    sample(x);
    x.commit();
    x.open(0);
    x.rename(F, 0, w("F"));
    x.power(2);
    x.replace(A, 3000, 4);
    x.commit();
  }

  private static void powerLost() {
    Checks.part("power was lost");
    Steps state = RefusalsTest::lost;
    refused("directory", state, LOST, x -> x.directory(0, w("N")));
    refused("directory, WRONG", state, LOST, x -> x.directory(NEVER, 0));
    refused("directory, NAMED", state, LOST, x -> x.directory(0, w("D")));
    refused("file", state, LOST, x -> x.file(0, w("N"), 1, 1));
    refused("file, WRONG", state, LOST, x -> x.file(0, w("N"), 6001, 256));
    refused("file, NAMED", state, LOST, x -> x.file(0, w("D"), 1, 1));
    refused("replace", state, LOST, x -> x.replace(F, 1, 1));
    refused("replace, WRONG", state, LOST, x -> x.replace(D, 1, 1));
    refused("remove", state, LOST, x -> x.remove(F));
    refused("remove, WRONG", state, LOST, x -> x.remove(ROOT));
    refused("rename", state, LOST, x -> x.rename(F, 0, w("N")));
    refused("rename, WRONG", state, LOST, x -> x.rename(D, D, w("N")));
    refused("rename, NAMED", state, LOST, x -> x.rename(F, 0, w("A")));
    refused("commit", state, LOST, x -> x.commit());
    refused("compact", state, LOST, x -> x.compact());
    for (int node : NO_NODES) {
      refused("directory in " + node, state, LOST, x -> x.directory(node, w("N")));
      refused("file in " + node, state, LOST, x -> x.file(node, w("N"), 1, 1));
      refused("replace " + node, state, LOST, x -> x.replace(node, 1, 1));
      refused("remove " + node, state, LOST, x -> x.remove(node));
      refused("rename " + node, state, LOST, x -> x.rename(node, 0, w("N")));
      refused("rename into " + node, state, LOST, x -> x.rename(F, node, w("N")));
    }
    for (long name : NO_NAMES) refused("name " + name, state, LOST, x -> x.rename(F, 0, name));
    Steps full = x -> {
      thirtyNodes(x);
      x.power(0);
      x.commit();
    };
    refused("directory, FULL", full, LOST, x -> x.directory(0, w("M")));
    refused("file, FULL", full, LOST, x -> x.file(0, w("M"), 1, 1));
    Steps told = x -> {
      lost(x);
      x.power(-1);
    };
    refused("directory, power being told to last", told, LOST, x -> x.directory(0, w("N")));
    refused("commit, power being told to last", told, LOST, x -> x.commit());
    refused("compact, power being told to last", told, LOST, x -> x.compact());
  }

  /** Every reason for WRONG goes before NAMED, and before FULL. */
  private static void ordersOfNewNodes() {
    Checks.part("the order of refusals, new nodes");
    Steps sample = RefusalsTest::sample;
    for (int size : NO_SIZES) refused("size " + size + ", NAMED", sample, WRONG, x -> x.file(0, w("D"), size, 1));
    for (int seed : NO_SEEDS) refused("seed " + seed + ", NAMED", sample, WRONG, x -> x.file(0, w("A"), 1, seed));
    Steps deepNamed = x -> {
      deep(x);
      x.file(6, w("F"), 1, 1);
    };
    refused("too deep, NAMED", deepNamed, WRONG, x -> x.directory(6, w("F")));
    refused("NAMED where only files may lie", deepNamed, NAMED, x -> x.file(6, w("F"), 1, 1));
    Steps full = RefusalsTest::thirtyNodes;
    int[] noDirectories = {-1, 30, 1, MIN, MAX};
    for (int in : noDirectories) {
      refused("directory in " + in + ", FULL", full, WRONG, x -> x.directory(in, w("M")));
      refused("file in " + in + ", FULL", full, WRONG, x -> x.file(in, w("M"), 1, 1));
    }
    for (long name : NO_NAMES) {
      refused("directory " + name + ", FULL", full, WRONG, x -> x.directory(0, name));
      refused("file " + name + ", FULL", full, WRONG, x -> x.file(0, name, 1, 1));
    }
    refused("size 6001, FULL", full, WRONG, x -> x.file(0, w("M"), 6001, 1));
    refused("seed 256, FULL", full, WRONG, x -> x.file(0, w("M"), 1, 256));
    refused("size -1, NAMED, FULL", full, WRONG, x -> x.file(0, w("N3"), -1, 1));
    refused("directory, NAMED, FULL", full, NAMED, x -> x.directory(0, w("N1")));
    refused("file, NAMED, FULL", full, NAMED, x -> x.file(0, w("N1"), 1, 1));
    Steps deepFull = x -> {
      deepNamed.on(x);
      for (int i = 11; i < 30; i++) x.file(0, w("N" + i), 0, 0);
    };
    refused("too deep, FULL", deepFull, WRONG, x -> x.directory(6, w("M")));
    refused("too deep, NAMED, FULL", deepFull, WRONG, x -> x.directory(6, w("F")));
    refused("not too deep, FULL", deepFull, FULL, x -> x.directory(5, w("M")));
  }

  private static void ordersOfRenaming() {
    Checks.part("the order of refusals, rename");
    Steps sample = RefusalsTest::sample;
    refused("no node, NAMED", sample, WRONG, x -> x.rename(GONE, 0, w("D")));
    refused("the root, NAMED", sample, WRONG, x -> x.rename(ROOT, 0, w("D")));
    refused("into itself, NAMED", sample, WRONG, x -> x.rename(D, D, w("F")));
    Steps deeper = x -> {
      sample(x);
      x.file(E, w("F"), 1, 1);
    };
    refused("into what lies in it, NAMED", deeper, WRONG, x -> x.rename(D, E, w("F")));
    Steps deepNamed = x -> {
      deep(x);
      x.file(6, w("F"), 1, 1);
    };
    refused("too deep, NAMED", deepNamed, WRONG, x -> x.rename(8, 6, w("F")));
    refused("a file where only files may lie, NAMED", deepNamed, NAMED, x -> x.rename(9, 6, w("F")));
  }

  /** Sectors 0, 2, 3 and the session are written, 1 is bad, the others are blank. */
  private static void spoilingAndDefects() {
    Checks.part("spoil and defect");
    Steps state = RefusalsTest::committed;
    int[] addresses = {-1, 204800, MIN, MAX, 2048, 4095, 99 * 2048, 204799, 5 * 2048};
    for (int a : addresses) refused("spoil " + a, state, NONE, x -> x.spoil(a, 9));
    int[] sectors = {-1, 100, MIN, MAX};
    for (int s : sectors) refused("defect " + s, state, 0, x -> x.defect(s) ? 1 : 0);
    int[] notBlank = {0, 1, 2, 3};
    for (int s : notBlank) refused("defect of one that is not blank, " + s, state, 1, x -> x.defect(s) ? 1 : 0);
    refused("defect of one that has it", state, 1, x -> x.defect(60) ? 1 : 0);
  }

  private static void committing() {
    Checks.part("commit");
    Steps full = x -> {
      for (int i = 0; i < 27; i++) x.file(0, w("F" + i), 6000, i);
      x.commit();
      x.power(3);
    };
    refused("no room for a session", full, FULL, x -> x.commit());
    Steps noExtent = x -> {
      thirtyFiles(x);
      for (int i = 1; i < 6; i++) x.replace(i, 6000, 9);
      x.commit();
      x.power(3);
    };
    refused("no room for an extent", noExtent, FULL, x -> x.commit());
  }

  private static void thirtyFiles(WriteOnceDisc x) {
    for (int i = 1; i < 30; i++) x.file(0, w("F" + i), 6000, i);
    x.commit();
  }

  /** The fresh medium is gone: nothing but the count of writes, and power, tells that it was there. */
  private static void compacting() {
    Checks.part("compact");
    Steps full = x -> {
      sample(x);
      x.commit();
      x.open(0);
      for (int i = 10; i < 35; i++) x.file(0, w("F" + i), 6000, i);
      x.replace(F, 6000, 1);
    };
    unchanged("no room for a session", full, FULL, x -> x.compact(), RefusalsTest::treeOf, RefusalsTest::mediumOf, RefusalsTest::openedOf);
    unchanged("no power", RefusalsTest::committed, LOST, x -> {
      x.power(4);
      return x.compact();
    }, RefusalsTest::treeOf, RefusalsTest::mediumOf, RefusalsTest::openedOf);
    WriteOnceDisc x = new WriteOnceDisc(100);
    full.on(x);
    int writes = x.writes();
    Checks.due("compact", x.compact(), FULL);
    Checks.due("the writes are counted", x.writes(), writes + 3 + 25 * 3);
    Checks.due("the session before has the number", x.mark(0, 2), 1);
    for (int i = 10; i < 30; i++) x.remove(i);
    Checks.due("the next session's number is not changed", x.commit(), 2);
  }

  private static void opening() {
    Checks.part("open");
    Steps wrong = x -> {
      sample(x);
      x.commit();
      x.open(0);
      x.spoil((x.mark(0, 1) + 16) * 2048, 7);
    };
    unchanged("a wrong session", wrong, -1 - 18 * 2048, x -> x.open(0), RefusalsTest::treeOf, RefusalsTest::mediumOf,
        RefusalsTest::writesOf, RefusalsTest::goingOn, RefusalsTest::mediumGoingOn, RefusalsTest::discovering,
        RefusalsTest::compactingThen);
    WriteOnceDisc x = new WriteOnceDisc(100);
    wrong.on(x);
    Checks.due("what was open", x.node(0, 1), 0);
    x.open(0);
    Checks.none("nothing is open then", () -> x.node(0, 1));
  }
}
