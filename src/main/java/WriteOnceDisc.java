import java.util.Arrays;
import java.util.NoSuchElementException;

/**
 * A file system on a medium that is written once. Changes are gathered in a tree and committed as
 * sessions; whoever has the medium alone finds every session that was completed.
 */
public final class WriteOnceDisc {
  public static final int NONE = -1, WRONG = -2, FULL = -3, LOST = -4, NAMED = -5;

  private static final int LEAST_SECTORS = 40, MOST_SECTORS = 200, USUAL_SECTORS = 100;
  private static final int SECTOR_BYTES = 2048;
  private static final int BLANK = 0, WRITTEN = 1, BAD = 2;

  private static final int MOST_NODES = 30, MOST_DEPTH = 6, MOST_SIZE = 6000, MOST_SEED = 255;

  /** Where the sectors of a session lie, counted from its base. */
  private static final int DESCRIPTOR = 16, END = 17, LOW_TABLE = 18, HIGH_TABLE = 19, DIRECTORIES = 20;

  private static final int DESCRIPTOR_BEGINS = 1, END_BEGINS = 255;
  private static final String STANDARD = "CD001", MARK = "MARK", FILE_ENDING = ".;1";

  /** Identifiers that are no names: a directory's own record has the one, its parent's the other. */
  private static final int OWN = 0, PARENT = 1;

  /** So many writes more, of power that does not go. */
  private static final int FOR_EVER = -1;

  private final Writer writer = new Writer();
  private final Reader reader = new Reader();
  private final Nodes planned = new Nodes();

  private Medium medium;
  /** The other medium of the two that take turns when the tree is compacted; null until the first time. */
  private Medium spare = null;
  /** The number of the last complete session that is known of. */
  private int lastNumber = 0;
  private boolean isOpen = false;
  private Nodes opened = new Nodes();
  /** What is read goes here first, so that a session that is wrong or only asked after leaves the opened one alone. */
  private Nodes scratch = new Nodes();

  public WriteOnceDisc(int n) {
    medium = new Medium(n >= LEAST_SECTORS && n <= MOST_SECTORS ? n : USUAL_SECTORS);
  }

  public boolean defect(int sector) {
    return medium.takesDefect(sector);
  }

  public void power(int n) {
    writer.supply.left = n < 0 ? FOR_EVER : n;
  }

  public int directory(int in, long name) {
    if (writer.supply.isLost) return LOST;
    Node parent = planned.directoryOf(in);
    if (parent == null || parent.depth() >= MOST_DEPTH) return WRONG;
    return added(parent, true, name);
  }

  public int file(int in, long name, int size, int seed) {
    if (writer.supply.isLost) return LOST;
    Node parent = planned.directoryOf(in);
    if (parent == null || !isContent(size, seed)) return WRONG;
    int number = added(parent, false, name);
    Node node = planned.nodeOf(number);
    if (node != null) node.takeContent(size, seed);
    return number;
  }

  public int replace(int node, int size, int seed) {
    if (writer.supply.isLost) return LOST;
    Node found = planned.nodeOf(node);
    if (found == null || found.isDirectory || !isContent(size, seed)) return WRONG;
    found.takeContent(size, seed);
    return 0;
  }

  public int remove(int node) {
    if (writer.supply.isLost) return LOST;
    Node found = planned.nodeOf(node);
    if (found == null || found.parent == null || planned.hasChildren(found)) return WRONG;
    planned.drop(found);
    return 0;
  }

  public int rename(int node, int in, long name) {
    if (writer.supply.isLost) return LOST;
    Node found = planned.nodeOf(node);
    Node parent = planned.directoryOf(in);
    long word = nameIn(name);
    if (found == null || found.parent == null || parent == null || word == 0) return WRONG;
    if (parent.isWithin(found)) return WRONG;
    if (parent.depth() + planned.levelsOf(found) > MOST_DEPTH) return WRONG;
    if (planned.hasOtherNamed(parent, word, found)) return NAMED;
    found.parent = parent;
    found.takeName(word);
    return 0;
  }

  public int commit() {
    if (writer.supply.isLost) return LOST;
    int outcome = writer.writeNewFiles(planned, medium);
    if (outcome == WRITTEN) outcome = writer.writeSession(planned, medium, lastNumber + 1);
    if (outcome != WRITTEN) return outcome;
    lastNumber++;
    return lastNumber;
  }

  public int discover() {
    int complete = 0;
    planned.becomeRootAlone();
    lastNumber = 0;
    for (int sector = 0; sector < medium.front; sector++) {
      if (medium.isMark(sector) && reader.countNodes(medium, medium.markedBase(sector), scratch) > 0) {
        complete++;
        planned.adopt(scratch);
        lastNumber = medium.markedNumber(sector);
      }
    }
    writer.supply.comeBack();
    return complete;
  }

  public int compact() {
    if (writer.supply.isLost) return LOST;
    if (spare == null) spare = new Medium(medium.sectors.length);
    spare.erase();
    int outcome = writer.writeAllFiles(planned, medium, spare);
    if (outcome == WRITTEN) outcome = writer.writeSession(planned, spare, 1);
    if (outcome != WRITTEN) return outcome;
    Medium old = medium;
    medium = spare;
    spare = old;
    planned.settle();
    isOpen = false;
    lastNumber = 1;
    return lastNumber;
  }

  public int state(int sector) {
    return medium.has(sector) ? medium.sectors[sector].condition : NONE;
  }

  public int byteAt(int address) {
    return medium.fetch(address);
  }

  public int spoil(int address, int value) {
    return medium.change(address, value);
  }

  public int writes() {
    return writer.supply.spent;
  }

  public int mark(int i, int what) throws NoSuchElementException {
    int sector = medium.sectorOfMark(i);
    if (sector == NONE) throw new NoSuchElementException();
    switch (what) {
      case 0: return sector;
      case 1: return medium.markedBase(sector);
      case 2: return medium.markedNumber(sector);
      case 3: return reader.countNodes(medium, medium.markedBase(sector), scratch);
      default: throw new NoSuchElementException();
    }
  }

  public int open(int i) {
    int sector = medium.sectorOfMark(i);
    if (sector == NONE) return NONE * 1000000;
    int answer = reader.countNodes(medium, medium.markedBase(sector), scratch);
    isOpen = answer > 0;
    if (isOpen) {
      Nodes closed = opened;
      opened = scratch;
      scratch = closed;
    }
    return answer;
  }

  public int node(int k, int what) throws NoSuchElementException {
    Node found = openedNode(k);
    if (found == null) throw new NoSuchElementException();
    switch (what) {
      case 0: return found.parentNumber();
      case 1: return found.sort();
      case 2: return found.size;
      case 3: return found.sector;
      default: throw new NoSuchElementException();
    }
  }

  public long name(int k) throws NoSuchElementException {
    Node found = openedNode(k);
    if (found == null) throw new NoSuchElementException();
    return found.word;
  }

  public int read(int k, int i) throws NoSuchElementException {
    Node found = openedNode(k);
    if (found == null || found.isDirectory || i < 0 || i >= found.size) throw new NoSuchElementException();
    return medium.fetch(found.sector * SECTOR_BYTES + i);
  }

  public int tree(int k, int what) throws NoSuchElementException {
    Node found = planned.nodeOf(k);
    if (found == null) throw new NoSuchElementException();
    switch (what) {
      case 0: return found.parentNumber();
      case 1: return found.sort();
      case 2: return found.size;
      case 3: return found.seed;
      case 4: return found.extent;
      default: throw new NoSuchElementException();
    }
  }

  private int added(Node parent, boolean isDirectory, long name) {
    long word = nameIn(name);
    if (word == 0) return WRONG;
    if (planned.hasOtherNamed(parent, word, null)) return NAMED;
    Node node = planned.append();
    if (node == null) return FULL;
    node.become(parent, isDirectory, word);
    return node.number;
  }

  private Node openedNode(int k) {
    return isOpen ? opened.nodeOf(k) : null;
  }

  private static boolean isContent(int size, int seed) {
    return size >= 0 && size <= MOST_SIZE && seed >= 0 && seed <= MOST_SEED;
  }

  private static boolean isNameByte(int value) {
    return value >= 'A' && value <= 'Z' || value >= '0' && value <= '9' || value == '_';
  }

  /** The name that a word tells, with no byte 0 inside, so that equal names are equal words; 0 when it tells none. */
  private static long nameIn(long word) {
    long name = 0;
    for (int shift = 56; shift >= 0; shift -= 8) {
      int value = (int) (word >>> shift) & 255;
      if (value != 0 && !isNameByte(value)) return 0;
      if (value != 0) name = name << 8 | value;
    }
    return name;
  }

  private static int sectorsFor(int size) {
    return size / SECTOR_BYTES + (size % SECTOR_BYTES == 0 ? 0 : 1);
  }

  /** How long something is that is filled up to an even length. */
  private static int evened(int length) {
    return length + length % 2;
  }

  /** The power that all media share, and the count of what it was spent on. */
  private static final class Power {
    int left = FOR_EVER;
    boolean isLost = false;
    int spent = 0;

    /** Spends one write; false when power goes in it. */
    boolean lastsForWrite() {
      spent++;
      if (left == 0) isLost = true;
      else if (left > 0) left--;
      return !isLost;
    }

    void comeBack() {
      if (isLost) left = FOR_EVER;
      isLost = false;
    }
  }

  private static final class Sector {
    int condition = BLANK;
    boolean isDefective = false;
    /** Made by the first write: most sectors of most media are never written. */
    byte[] bytes = null;

    void take(byte[] content) {
      if (bytes == null) bytes = new byte[SECTOR_BYTES];
      System.arraycopy(content, 0, bytes, 0, Math.min(content.length, bytes.length));
      condition = WRITTEN;
    }

    void erase() {
      condition = BLANK;
      isDefective = false;
    }
  }

  private static final class Medium {
    final Sector[] sectors;
    /** The sector behind the last one that is not blank. */
    int front = 0;

    Medium(int n) {
      sectors = new Sector[n];
      for (int i = 0; i < n; i++) sectors[i] = new Sector();
    }

    /** Blank again, the rows of its sectors being kept for the writes to come. */
    void erase() {
      for (int i = 0; i < sectors.length; i++) sectors[i].erase();
      front = 0;
    }

    boolean has(int sector) {
      return sector >= 0 && sector < sectors.length;
    }

    boolean isWritten(int sector) {
      return sector >= 0 && sector < sectors.length && sectors[sector].condition == WRITTEN;
    }

    boolean takesDefect(int sector) {
      if (!has(sector)) return false;
      if (sectors[sector].condition == BLANK) sectors[sector].isDefective = true;
      return true;
    }

    boolean hasRoom(int from, int count) {
      return from <= sectors.length - count;
    }

    /** WRITTEN, BAD or LOST. */
    int write(int sector, byte[] content, Power supply) {
      if (!has(sector)) return BAD;
      Sector target = sectors[sector];
      boolean isPowered = supply.lastsForWrite();
      front = Math.max(front, sector + 1);
      if (isPowered && !target.isDefective) target.take(content);
      else target.condition = BAD;
      return isPowered ? target.condition : LOST;
    }

    int fetch(int address) {
      int sector = address / SECTOR_BYTES;
      if (address < 0 || sector >= sectors.length) return NONE;
      Sector from = sectors[sector];
      return from.condition == WRITTEN && from.bytes != null ? from.bytes[address % SECTOR_BYTES] & 255 : 0;
    }

    /** The first bytes of a written sector, for a page. */
    void copyInto(byte[] page, int sector, int length) {
      if (!isWritten(sector) || sectors[sector].bytes == null) return;
      if (length < 0 || length > SECTOR_BYTES || length > page.length) return;
      System.arraycopy(sectors[sector].bytes, 0, page, 0, length);
    }

    int change(int address, int value) {
      int was = fetch(address);
      int sector = address / SECTOR_BYTES;
      if (was == NONE || !isWritten(sector) || sectors[sector].bytes == null) return NONE;
      sectors[sector].bytes[address % SECTOR_BYTES] = (byte) value;
      return was;
    }

    int low(int address, int width) {
      int value = 0;
      for (int i = width - 1; i >= 0; i--) value = value << 8 | fetch(address + i);
      return value;
    }

    int high(int address, int width) {
      int value = 0;
      for (int i = 0; i < width; i++) value = value << 8 | fetch(address + i);
      return value;
    }

    /** Whether a number that is told both ways is the same both times. */
    boolean halvesAgree(int address, int width) {
      for (int i = 0; i < width; i++) {
        if (fetch(address + i) != fetch(address + 2 * width - 1 - i)) return false;
      }
      return true;
    }

    boolean hasText(int address, String text) {
      for (int i = 0; i < text.length(); i++) {
        if (fetch(address + i) != text.charAt(i)) return false;
      }
      return true;
    }

    boolean isMark(int sector) {
      return isWritten(sector) && hasText(sector * SECTOR_BYTES, MARK) && markedNumber(sector) > 0
          && markedBase(sector) >= 0 && markedBase(sector) < sector;
    }

    int markedBase(int sector) {
      return low(sector * SECTOR_BYTES + 4, 4);
    }

    int markedNumber(int sector) {
      return low(sector * SECTOR_BYTES + 8, 4);
    }

    int sectorOfMark(int i) {
      int seen = 0;
      for (int sector = 0; sector < front; sector++) {
        if (isMark(sector)) {
          if (seen == i) return sector;
          seen++;
        }
      }
      return NONE;
    }
  }

  /** A directory or a file, of the tree to be committed or of a session that was read. */
  private static final class Node {
    int number = 0;
    Node parent = null;
    boolean isDirectory = true;
    /** The name, and how many bytes it has; the root has none. */
    long word = 0;
    int letters = 0;
    int size = 0;
    int seed = 0;
    /** Whether the medium has its bytes, and from which sector on. */
    boolean isWritten = false;
    int extent = 0;
    /** What its record says in the session that is being written or was read. */
    int sector = 0;
    int numberInPathTable = 1;

    void become(Node parent, boolean isDirectory, long word) {
      this.parent = parent;
      this.isDirectory = isDirectory;
      takeName(word);
      takeContent(0, 0);
    }

    void takeName(long word) {
      this.word = word;
      letters = 0;
      for (int shift = 0; shift < 64; shift += 8) {
        if (word >>> shift != 0) letters++;
      }
    }

    void takeContent(int size, int seed) {
      this.size = size;
      this.seed = seed;
      isWritten = false;
      extent = 0;
    }

    void settle(int extent) {
      this.extent = extent;
      isWritten = true;
    }

    /** Becomes what another one is that was read; only files have sizes and extents in the tree. */
    void adopt(Node read) {
      isDirectory = read.isDirectory;
      takeName(read.word);
      takeContent(isDirectory ? 0 : read.size, NONE);
      settle(isDirectory ? 0 : read.sector);
    }

    /** A byte of a file that is not written yet. */
    int contentByte(int i) {
      return seed + 3 * i + i / 128;
    }

    boolean needsSectors() {
      return !isDirectory && size > 0;
    }

    int sort() {
      return isDirectory ? 0 : 1;
    }

    int parentNumber() {
      return parent == null ? NONE : parent.number;
    }

    /** In how many directories it lies. */
    int depth() {
      int depth = 0;
      for (Node up = parent; up != null; up = up.parent) depth++;
      return depth;
    }

    /** Whether it is that node or lies in it, at any depth. */
    boolean isWithin(Node other) {
      for (Node up = this; up != null; up = up.parent) {
        if (up == other) return true;
      }
      return false;
    }

    /** Whether both have a sector in common. */
    boolean overlaps(Node other) {
      return sector < other.sector + sectorsFor(other.size) && other.sector < sector + sectorsFor(size);
    }

    int identifierLength() {
      return isDirectory ? letters : letters + FILE_ENDING.length();
    }

    int identifierByte(int i) {
      if (i < letters) return (int) (word >>> 8 * (letters - 1 - i)) & 255;
      int behind = i - letters;
      return behind < FILE_ENDING.length() ? FILE_ENDING.charAt(behind) : 0;
    }

    boolean comesBefore(Node other) {
      int mine = identifierLength();
      int theirs = other.identifierLength();
      for (int i = 0; i < mine && i < theirs; i++) {
        int difference = identifierByte(i) - other.identifierByte(i);
        if (difference != 0) return difference < 0;
      }
      return mine < theirs;
    }
  }

  /** Up to thirty nodes, the root first, by rising numbers. */
  private static final class Nodes {
    final Node[] slots = new Node[MOST_NODES];
    /** The same nodes as a session tells them, once they are put in order. */
    final Node[] order = new Node[MOST_NODES];
    int count = 1;
    int nextNumber = 1;

    Nodes() {
      for (int i = 0; i < MOST_NODES; i++) {
        slots[i] = new Node();
        order[i] = slots[i];
      }
    }

    void becomeRootAlone() {
      count = 0;
      nextNumber = 0;
      Node root = append();
      if (root != null) root.become(null, true, 0);
    }

    /** A node with the next number, for the caller to fill; null when there is no room. */
    Node append() {
      if (count >= slots.length) return null;
      Node node = slots[count];
      node.number = nextNumber;
      count++;
      nextNumber++;
      return node;
    }

    /** Takes a node out; its object waits behind the others to be used again. */
    void drop(Node node) {
      int kept = 0;
      for (int i = 0; i < count; i++) {
        if (slots[i] != node) {
          slots[kept] = slots[i];
          kept++;
        }
      }
      if (kept < count) slots[kept] = node;
      count = kept;
    }

    /** Becomes the tree of a session that was read, whose nodes have their places for numbers. */
    void adopt(Nodes read) {
      becomeRootAlone();
      slots[0].adopt(read.slots[0]);
      for (int i = 1; i < read.count; i++) {
        Node node = append();
        if (node == null) return;
        node.adopt(read.slots[i]);
        node.parent = nodeOf(read.slots[i].parentNumber());
      }
    }

    /** All files have gone to where their records say. */
    void settle() {
      for (int i = 0; i < count; i++) {
        if (!slots[i].isDirectory) slots[i].settle(slots[i].sector);
      }
    }

    Node nodeOf(int number) {
      for (int i = 0; i < count; i++) {
        if (slots[i].number == number) return slots[i];
      }
      return null;
    }

    Node directoryOf(int number) {
      Node node = nodeOf(number);
      return node != null && node.isDirectory ? node : null;
    }

    /** Whether a node in that directory has the name, other than the one that may have it. */
    boolean hasOtherNamed(Node parent, long word, Node except) {
      for (int i = 0; i < count; i++) {
        if (slots[i].parent == parent && slots[i].word == word && slots[i] != except) return true;
      }
      return false;
    }

    boolean hasChildren(Node node) {
      for (int i = 0; i < count; i++) {
        if (slots[i].parent == node) return true;
      }
      return false;
    }

    /** How many levels of directories a node is, itself and what lies in it; 0 for a file. */
    int levelsOf(Node node) {
      int levels = 0;
      for (int i = 0; i < count; i++) {
        if (slots[i].isDirectory && slots[i].isWithin(node)) {
          levels = Math.max(levels, slots[i].depth() - node.depth() + 1);
        }
      }
      return levels;
    }

    /**
     * The order in which reading finds nodes: what is in one directory together, by identifiers,
     * directory behind directory. So the directories among them stand as in the path table.
     */
    void putInOrder() {
      order[0] = slots[0];
      int listed = 1;
      for (int i = 0; i < listed && i < MOST_NODES; i++) {
        if (order[i].isDirectory) listed = listChildren(order[i], listed);
      }
    }

    private int listChildren(Node directory, int listed) {
      int end = listed;
      for (int i = 0; i < count && end < MOST_NODES; i++) {
        if (slots[i].parent == directory) {
          int at = end;
          while (at > listed && slots[i].comesBefore(order[at - 1])) {
            order[at] = order[at - 1];
            at--;
          }
          order[at] = slots[i];
          end++;
        }
      }
      return end;
    }
  }

  /** The bytes of one sector, or of its beginning, while they are put together. */
  private static final class Page {
    final byte[] bytes;

    Page(int length) {
      bytes = new byte[length];
    }

    void clear() {
      Arrays.fill(bytes, (byte) 0);
    }

    void put(int at, int value) {
      if (at >= 0 && at < bytes.length) bytes[at] = (byte) value;
    }

    void putText(int at, String text) {
      for (int i = 0; i < text.length(); i++) put(at + i, text.charAt(i));
    }

    void putLow(int at, int width, int value) {
      for (int i = 0; i < width; i++) put(at + i, value >> 8 * i);
    }

    void putHigh(int at, int width, int value) {
      for (int i = 0; i < width; i++) put(at + width - 1 - i, value >> 8 * i);
    }

    void putBoth(int at, int width, int value) {
      for (int i = 0; i < width; i++) {
        put(at + i, value >> 8 * i);
        put(at + 2 * width - 1 - i, value >> 8 * i);
      }
    }

    void fillWithStandard(int begins) {
      clear();
      put(0, begins);
      putText(1, STANDARD);
      put(6, 1);
    }

    void fillWithMark(int base, int number) {
      clear();
      putText(0, MARK);
      putLow(4, 4, base);
      putLow(8, 4, number);
    }

    void fillWithDescriptor(Medium medium, int base, int tableBytes, Node root) {
      fillWithStandard(DESCRIPTOR_BEGINS);
      putBoth(80, 4, medium.sectors.length);
      putBoth(128, 2, SECTOR_BYTES);
      putBoth(132, 4, tableBytes);
      putLow(140, 4, base + LOW_TABLE);
      putHigh(148, 4, base + HIGH_TABLE);
      putRecord(156, root, OWN);
    }

    void fillWithDirectory(Node directory, Node[] order, int count) {
      clear();
      int at = putRecord(0, directory, OWN);
      at = putRecord(at, directory.parent == null ? directory : directory.parent, PARENT);
      for (int i = 0; i < count && i < order.length; i++) {
        if (order[i].parent == directory) at = putRecord(at, order[i], NONE);
      }
    }

    /** One sector of a file, counted from 0: once written, a file has the bytes that the medium has. */
    void fillWithFile(Node file, int part, Medium medium) {
      clear();
      int first = part * SECTOR_BYTES;
      int length = Math.min(SECTOR_BYTES, file.size - first);
      if (file.isWritten) {
        medium.copyInto(bytes, file.extent + part, length);
      } else {
        for (int i = 0; i < length; i++) put(i, file.contentByte(first + i));
      }
    }

    /** The path table of the directories among nodes that stand in its order; answers its length. */
    int fillWithPathTable(Node[] order, int count, boolean isLow) {
      clear();
      int at = 0;
      int directories = 0;
      for (int i = 0; i < count && i < order.length; i++) {
        if (order[i].isDirectory) {
          directories++;
          order[i].numberInPathTable = directories;
          at = putPathEntry(at, order[i], isLow);
        }
      }
      return at;
    }

    private int putPathEntry(int at, Node directory, boolean isLow) {
      int above = directory.parent == null ? 1 : directory.parent.numberInPathTable;
      int length = directory.parent == null ? 1 : directory.letters;
      put(at, length);
      if (isLow) {
        putLow(at + 2, 4, directory.sector);
        putLow(at + 6, 2, above);
      } else {
        putHigh(at + 2, 4, directory.sector);
        putHigh(at + 6, 2, above);
      }
      putIdentifier(at + 8, directory);
      return at + 8 + evened(length);
    }

    /** A record whose identifier is OWN, PARENT, or with NONE the node's; answers where the next one begins. */
    private int putRecord(int at, Node node, int identifier) {
      int identifierLength = identifier == NONE ? node.identifierLength() : 1;
      int length = evened(33 + identifierLength);
      put(at, length);
      putBoth(at + 2, 4, node.sector);
      putBoth(at + 10, 4, node.isDirectory ? SECTOR_BYTES : node.size);
      put(at + 25, node.isDirectory ? 2 : 0);
      putBoth(at + 28, 2, 1);
      put(at + 32, identifierLength);
      if (identifier == NONE) putIdentifier(at + 33, node);
      else put(at + 33, identifier);
      return at + length;
    }

    private void putIdentifier(int at, Node node) {
      for (int i = 0; i < node.identifierLength(); i++) put(at + i, node.identifierByte(i));
    }
  }

  /** Writes files and sessions; its answers are WRITTEN, FULL or LOST. */
  private static final class Writer {
    final Power supply = new Power();
    final Page page = new Page(SECTOR_BYTES);

    int writeNewFiles(Nodes tree, Medium medium) {
      for (int i = 0; i < tree.count; i++) {
        Node file = tree.slots[i];
        if (file.needsSectors() && !file.isWritten) {
          int start = writeFile(file, medium, medium);
          if (start < 0) return start;
          file.settle(start);
        }
        file.sector = file.extent;
      }
      return WRITTEN;
    }

    /** Leaves the extents in the tree alone: the old medium may have to stay. */
    int writeAllFiles(Nodes tree, Medium from, Medium onto) {
      for (int i = 0; i < tree.count; i++) {
        Node file = tree.slots[i];
        int start = file.needsSectors() ? writeFile(file, from, onto) : 0;
        if (start < 0) return start;
        file.sector = start;
      }
      return WRITTEN;
    }

    /** Answers the first sector of the file's new extent, or FULL or LOST. */
    private int writeFile(Node file, Medium from, Medium onto) {
      int parts = sectorsFor(file.size);
      for (int tries = 0; tries <= onto.sectors.length; tries++) {
        int start = onto.front;
        if (!onto.hasRoom(start, parts)) return FULL;
        int outcome = writeParts(file, parts, from, onto);
        if (outcome == WRITTEN) return start;
        if (outcome == LOST) return LOST;
      }
      return FULL;
    }

    /** WRITTEN, BAD or LOST. */
    private int writeParts(Node file, int parts, Medium from, Medium onto) {
      int outcome = WRITTEN;
      for (int part = 0; part < parts && outcome == WRITTEN; part++) {
        page.fillWithFile(file, part, from);
        outcome = onto.write(onto.front, page.bytes, supply);
      }
      return outcome;
    }

    int writeSession(Nodes tree, Medium medium, int number) {
      tree.putInOrder();
      for (int tries = 0; tries <= medium.sectors.length; tries++) {
        int base = medium.front;
        int directories = placeDirectories(tree, base + DIRECTORIES);
        if (!medium.hasRoom(base, DIRECTORIES + directories + 1)) return FULL;
        int outcome = writeHead(tree, medium, base);
        if (outcome == WRITTEN) outcome = writeDirectories(tree, medium);
        if (outcome == WRITTEN) outcome = writeMark(medium, base, number);
        if (outcome != BAD) return outcome;
      }
      return FULL;
    }

    /** One sector holds thirty nodes with the longest names, so every directory has just one. */
    private int placeDirectories(Nodes tree, int first) {
      int directories = 0;
      for (int i = 0; i < tree.count; i++) {
        if (tree.order[i].isDirectory) {
          tree.order[i].sector = first + directories;
          directories++;
        }
      }
      return directories;
    }

    /** WRITTEN, BAD or LOST, as are the two below. */
    private int writeHead(Nodes tree, Medium medium, int base) {
      int tableBytes = page.fillWithPathTable(tree.order, tree.count, true);
      int outcome = WRITTEN;
      for (int s = DESCRIPTOR; s <= HIGH_TABLE && outcome == WRITTEN; s++) {
        switch (s) {
          case DESCRIPTOR: page.fillWithDescriptor(medium, base, tableBytes, tree.slots[0]); break;
          case END: page.fillWithStandard(END_BEGINS); break;
          default: page.fillWithPathTable(tree.order, tree.count, s == LOW_TABLE); break;
        }
        outcome = medium.write(base + s, page.bytes, supply);
      }
      return outcome;
    }

    private int writeDirectories(Nodes tree, Medium medium) {
      int outcome = WRITTEN;
      for (int i = 0; i < tree.count && outcome == WRITTEN; i++) {
        if (tree.order[i].isDirectory) {
          page.fillWithDirectory(tree.order[i], tree.order, tree.count);
          outcome = medium.write(tree.order[i].sector, page.bytes, supply);
        }
      }
      return outcome;
    }

    private int writeMark(Medium medium, int base, int number) {
      page.fillWithMark(base, number);
      return medium.write(medium.front, page.bytes, supply);
    }
  }

  /** Reads sessions from the medium alone. */
  private static final class Reader {
    /** Has room for the path table of as many directories as there can be. */
    final Page table = new Page(16 * MOST_NODES);
    /** What a directory's first two records say. */
    final Node told = new Node();
    Medium medium = null;
    Nodes nodes = null;
    int wrongPlace = 0;

    /** Reads a session: how many nodes it has, or -1 - the place that is wrong. */
    int countNodes(Medium from, int base, Nodes into) {
      medium = from;
      nodes = into;
      into.becomeRootAlone();
      boolean isRight = hasHead(base) && hasDescriptor(base);
      for (int i = 0; i < into.count && isRight; i++) {
        if (into.slots[i].isDirectory) isRight = hasDirectory(into.slots[i]);
      }
      isRight = isRight && hasPathTables(base);
      return isRight ? into.count : -1 - wrongPlace;
    }

    private boolean wrongAt(int address) {
      wrongPlace = address;
      return false;
    }

    private boolean hasHead(int base) {
      for (int s = base + DESCRIPTOR; s <= base + HIGH_TABLE; s++) {
        if (!medium.isWritten(s)) return wrongAt(s * SECTOR_BYTES);
      }
      return beginsAs(base + DESCRIPTOR, DESCRIPTOR_BEGINS) && beginsAs(base + END, END_BEGINS);
    }

    private boolean beginsAs(int sector, int begins) {
      int at = sector * SECTOR_BYTES;
      if (medium.fetch(at) == begins && medium.hasText(at + 1, STANDARD) && medium.fetch(at + 6) == 1) return true;
      return wrongAt(at);
    }

    private boolean hasDescriptor(int base) {
      int at = (base + DESCRIPTOR) * SECTOR_BYTES;
      if (medium.low(at + 128, 2) != SECTOR_BYTES || !medium.halvesAgree(at + 128, 2)) return wrongAt(at + 128);
      int tableBytes = medium.low(at + 132, 4);
      if (tableBytes < 0 || tableBytes > SECTOR_BYTES || !medium.halvesAgree(at + 132, 4)) return wrongAt(at + 132);
      if (medium.low(at + 140, 4) != base + LOW_TABLE) return wrongAt(at + 140);
      if (medium.high(at + 148, 4) != base + HIGH_TABLE) return wrongAt(at + 148);
      return takesRecord(at + 156, nodes.slots[0]) && isSpecial(at + 156, OWN) || wrongAt(at + 156);
    }

    private boolean hasDirectory(Node directory) {
      int first = directory.sector * SECTOR_BYTES;
      int end = first + directory.size;
      Node parent = directory.parent == null ? directory : directory.parent;
      int records = 0;
      int at = first;
      while (at < end) {
        int length = medium.fetch(at);
        if (length <= 0) {
          at += SECTOR_BYTES - at % SECTOR_BYTES;
        } else {
          boolean isRight;
          if (records == 0) isRight = saysDirectory(at, OWN, directory);
          else if (records == 1) isRight = saysDirectory(at, PARENT, parent);
          else isRight = takesNode(at, directory);
          if (!isRight) return wrongAt(at);
          records++;
          at += length;
        }
      }
      return records >= 2 || wrongAt(first);
    }

    private boolean saysDirectory(int at, int identifier, Node directory) {
      return takesRecord(at, told) && isSpecial(at, identifier)
          && told.sector == directory.sector && told.size == directory.size;
    }

    private boolean takesNode(int at, Node directory) {
      Node before = nodes.slots[nodes.count - 1];
      Node node = nodes.append();
      if (node == null) return false;
      node.become(directory, true, 0);
      if (!takesRecord(at, node) || !takesIdentifier(at, node)) return false;
      if (before.parent == directory && !before.comesBefore(node)) return false;
      return !node.isDirectory || node.depth() <= MOST_DEPTH && isToldOnce(node);
    }

    private boolean isToldOnce(Node directory) {
      for (int i = 0; i < nodes.count; i++) {
        Node other = nodes.slots[i];
        if (other != directory && other.isDirectory && other.overlaps(directory)) return false;
      }
      return true;
    }

    /** A record by itself, but for its identifier. */
    private boolean takesRecord(int at, Node node) {
      int length = medium.fetch(at);
      if (length < 34 || at % SECTOR_BYTES + length > SECTOR_BYTES) return false;
      int kind = medium.fetch(at + 25);
      if (length != evened(33 + medium.fetch(at + 32)) || kind != 0 && kind != 2) return false;
      if (!medium.halvesAgree(at + 2, 4) || !medium.halvesAgree(at + 10, 4)) return false;
      if (!medium.halvesAgree(at + 28, 2)) return false;
      node.isDirectory = kind == 2;
      node.sector = medium.low(at + 2, 4);
      node.size = medium.low(at + 10, 4);
      return hasSectors(node);
    }

    /** Whether a record is a directory's own or its parent's, as the identifier says. */
    private boolean isSpecial(int at, int identifier) {
      return medium.fetch(at + 25) == 2 && medium.fetch(at + 32) == 1 && medium.fetch(at + 33) == identifier;
    }

    private boolean takesIdentifier(int at, Node node) {
      int length = medium.fetch(at + 32);
      int letters = node.isDirectory ? length : length - FILE_ENDING.length();
      if (letters < 1 || letters > 8) return false;
      if (!node.isDirectory && !medium.hasText(at + 33 + letters, FILE_ENDING)) return false;
      long word = 0;
      for (int i = 0; i < letters; i++) {
        int value = medium.fetch(at + 33 + i);
        if (!isNameByte(value)) return false;
        word = word << 8 | value;
      }
      node.takeName(word);
      return true;
    }

    private boolean hasSectors(Node node) {
      if (node.size < 0 || node.isDirectory && (node.size == 0 || node.size % SECTOR_BYTES != 0)) return false;
      if (node.size == 0) return node.sector == 0;
      int count = sectorsFor(node.size);
      if (node.sector < 0 || !medium.hasRoom(node.sector, count)) return false;
      for (int i = 0; i < count; i++) {
        if (!medium.isWritten(node.sector + i)) return false;
      }
      return true;
    }

    private boolean hasPathTables(int base) {
      int length = table.fillWithPathTable(nodes.slots, nodes.count, true);
      if (!hasTable(base + LOW_TABLE, length)) return false;
      table.fillWithPathTable(nodes.slots, nodes.count, false);
      if (!hasTable(base + HIGH_TABLE, length)) return false;
      int field = (base + DESCRIPTOR) * SECTOR_BYTES + 132;
      return medium.low(field, 4) == length || wrongAt(field);
    }

    private boolean hasTable(int sector, int length) {
      int first = sector * SECTOR_BYTES;
      for (int i = 0; i < length && i < table.bytes.length; i++) {
        if (medium.fetch(first + i) != (table.bytes[i] & 255)) return wrongAt(first + i);
      }
      return true;
    }
  }
}
