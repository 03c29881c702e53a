import java.io.ByteArrayOutputStream;
import java.util.ArrayList;
import java.util.Arrays;
import java.util.Comparator;
import java.util.List;
import java.util.NoSuchElementException;
import java.util.TreeMap;

/**
 * The document once more, written with the whole library and without a thought of cost, so that
 * the program has something to be held against in long runs.
 */
final class Model {
  private static final int S = 2048;

  private static final class Wrong extends Exception {
    final int place;

    Wrong(int place) {
      this.place = place;
    }
  }

  private static final class PowerGone extends Exception {
  }

  private static final class NoRoom extends Exception {
  }

  private static final class SectorBad extends Exception {
  }

  private static final class Disc {
    final byte[][] sector;
    final int[] state;
    final boolean[] defect;

    Disc(int n) {
      sector = new byte[n][S];
      state = new int[n];
      defect = new boolean[n];
    }

    int front() {
      int f = state.length;
      while (f > 0 && state[f - 1] == 0) f--;
      return f;
    }

    int at(int address) {
      return sector[address / S][address % S] & 255;
    }

    long number(int address, int bytes, boolean low) {
      long v = 0;
      for (int i = 0; i < bytes; i++) v += (long) at(address + i) << 8 * (low ? i : bytes - 1 - i);
      return v;
    }
  }

  private static final class Item {
    int number;
    Item parent;
    boolean dir;
    String name = "";
    int size;
    int seed;
    Integer extent;
    int said;

    String identifier() {
      return dir ? name : name + ".;1";
    }

    int depth() {
      return parent == null ? 0 : parent.depth() + 1;
    }

    boolean under(Item other) {
      return this == other || parent != null && parent.under(other);
    }
  }

  private Disc disc;
  private TreeMap<Integer, Item> tree = new TreeMap<>();
  private int next = 1;
  private int last = 0;
  private long left = Long.MAX_VALUE;
  private boolean lost = false;
  private int writes = 0;
  private List<Item> opened = null;

  Model(int n) {
    disc = new Disc(n < 40 || n > 200 ? 100 : n);
    rootAlone();
  }

  private void rootAlone() {
    tree.clear();
    Item root = new Item();
    root.dir = true;
    tree.put(0, root);
    next = 1;
  }

  boolean defect(int s) {
    if (s < 0 || s >= disc.state.length) return false;
    if (disc.state[s] == 0) disc.defect[s] = true;
    return true;
  }

  void power(int n) {
    left = n < 0 ? Long.MAX_VALUE : n;
  }

  private static String text(long word) {
    StringBuilder b = new StringBuilder();
    for (int i = 7; i >= 0; i--) {
      char c = (char) (word >> 8 * i & 255);
      if (c != 0) b.append(c);
    }
    return b.toString();
  }

  private Item directoryAt(int in) {
    Item d = tree.get(in);
    return d == null || !d.dir ? null : d;
  }

  private boolean taken(Item d, String name, Item but) {
    return tree.values().stream().anyMatch(i -> i.parent == d && i != but && i.name.equals(name));
  }

  private int make(int in, long word, boolean dir, int size, int seed) {
    if (lost) return -4;
    Item d = directoryAt(in);
    String name = text(word);
    if (d == null || !name.matches("[A-Z0-9_]{1,8}")) return -2;
    if (size < 0 || size > 6000 || seed < 0 || seed > 255) return -2;
    if (dir && d.depth() + 1 > 6) return -2;
    if (taken(d, name, null)) return -5;
    if (tree.size() == 30) return -3;
    Item i = new Item();
    i.number = next++;
    i.parent = d;
    i.dir = dir;
    i.name = name;
    i.size = size;
    i.seed = seed;
    tree.put(i.number, i);
    return i.number;
  }

  int directory(int in, long word) {
    return make(in, word, true, 0, 0);
  }

  int file(int in, long word, int size, int seed) {
    return make(in, word, false, size, seed);
  }

  int replace(int k, int size, int seed) {
    if (lost) return -4;
    Item i = tree.get(k);
    if (i == null || i.dir || size < 0 || size > 6000 || seed < 0 || seed > 255) return -2;
    i.size = size;
    i.seed = seed;
    i.extent = null;
    return 0;
  }

  int remove(int k) {
    if (lost) return -4;
    Item i = tree.get(k);
    if (i == null || k == 0 || tree.values().stream().anyMatch(c -> c.parent == i)) return -2;
    tree.remove(k);
    return 0;
  }

  int rename(int k, int in, long word) {
    if (lost) return -4;
    Item i = tree.get(k);
    Item d = directoryAt(in);
    String name = text(word);
    if (i == null || k == 0 || d == null || !name.matches("[A-Z0-9_]{1,8}") || d.under(i)) return -2;
    Item was = i.parent;
    i.parent = d;
    boolean deep = tree.values().stream().anyMatch(c -> c.dir && c.depth() > 6);
    i.parent = was;
    if (deep) return -2;
    if (taken(d, name, i)) return -5;
    i.parent = d;
    i.name = name;
    return 0;
  }

  private void burn(Disc d, int s, byte[] content) throws PowerGone, SectorBad {
    writes++;
    if (left == 0) {
      d.state[s] = 2;
      lost = true;
      throw new PowerGone();
    }
    if (left != Long.MAX_VALUE) left--;
    if (d.defect[s]) {
      d.state[s] = 2;
      throw new SectorBad();
    }
    d.state[s] = 1;
    d.sector[s] = Arrays.copyOf(content, S);
  }

  private byte[] bytesOf(Item i) {
    byte[] b = new byte[(i.size + S - 1) / S * S];
    for (int j = 0; j < i.size; j++) {
      b[j] = (byte) (i.extent == null ? (i.seed + 3 * j + j / 128) % 256 : disc.at(i.extent * S + j));
    }
    return b;
  }

  private int burnFile(Item i, Disc onto) throws PowerGone, NoRoom {
    byte[] b = bytesOf(i);
    while (true) {
      int start = onto.front();
      if (start + b.length / S > onto.state.length) throw new NoRoom();
      try {
        for (int p = 0; p < b.length / S; p++) burn(onto, start + p, Arrays.copyOfRange(b, p * S, p * S + S));
        return start;
      } catch (SectorBad e) {
        // begun anew behind it
      }
    }
  }

  private static byte[] low(long v, int n) {
    byte[] b = new byte[n];
    for (int i = 0; i < n; i++) b[i] = (byte) (v >> 8 * i);
    return b;
  }

  private static byte[] high(long v, int n) {
    byte[] b = new byte[n];
    for (int i = 0; i < n; i++) b[n - 1 - i] = (byte) (v >> 8 * i);
    return b;
  }

  private static void both(byte[] page, int at, long v, int n) {
    System.arraycopy(low(v, n), 0, page, at, n);
    System.arraycopy(high(v, n), 0, page, at + n, n);
  }

  private static byte[] record(Item i, String identifier) {
    int length = 33 + identifier.length();
    byte[] b = new byte[length % 2 == 0 ? length : length + 1];
    b[0] = (byte) b.length;
    both(b, 2, i.said, 4);
    both(b, 10, i.dir ? S : i.size, 4);
    b[25] = (byte) (i.dir ? 2 : 0);
    both(b, 28, 1, 2);
    b[32] = (byte) identifier.length();
    for (int j = 0; j < identifier.length(); j++) b[33 + j] = (byte) identifier.charAt(j);
    return b;
  }


  /** The directories as the path table has them, found by sorting, level by level. */
  private static List<Item> pathOrder(Iterable<Item> items) {
    List<Item> order = new ArrayList<>();
    for (int depth = 0; depth <= 6; depth++) {
      List<Item> level = new ArrayList<>();
      for (Item i : items) if (i.dir && i.depth() == depth) level.add(i);
      level.sort(Comparator.<Item>comparingInt(i -> order.indexOf(i.parent)).thenComparing(i -> i.name));
      order.addAll(level);
    }
    return order;
  }

  private static byte[] pathTable(List<Item> order, boolean isLow) {
    ByteArrayOutputStream out = new ByteArrayOutputStream();
    for (Item d : order) {
      String id = d.parent == null ? "\0" : d.name;
      int parent = d.parent == null ? 1 : order.indexOf(d.parent) + 1;
      out.write(id.length());
      out.write(0);
      out.writeBytes(isLow ? low(d.said, 4) : high(d.said, 4));
      out.writeBytes(isLow ? low(parent, 2) : high(parent, 2));
      for (char c : id.toCharArray()) out.write(c);
      if (id.length() % 2 == 1) out.write(0);
    }
    return out.toByteArray();
  }

  private byte[] directoryBytes(Item d) {
    ByteArrayOutputStream out = new ByteArrayOutputStream();
    out.writeBytes(record(d, "\0"));
    out.writeBytes(record(d.parent == null ? d : d.parent, "\1"));
    List<Item> inside = new ArrayList<>();
    for (Item i : tree.values()) if (i.parent == d) inside.add(i);
    inside.sort(Comparator.comparing(Item::identifier));
    for (Item i : inside) out.writeBytes(record(i, i.identifier()));
    return out.toByteArray();
  }

  private static byte[] standard(int first) {
    byte[] b = new byte[S];
    b[0] = (byte) first;
    System.arraycopy(new byte[] {'C', 'D', '0', '0', '1', 1}, 0, b, 1, 6);
    return b;
  }

  private void burnSession(Disc onto, int number) throws PowerGone, NoRoom {
    List<Item> order = pathOrder(tree.values());
    while (true) {
      int b = onto.front();
      if (b + 20 + order.size() + 1 > onto.state.length) throw new NoRoom();
      for (int i = 0; i < order.size(); i++) order.get(i).said = b + 20 + i;
      List<byte[]> pages = new ArrayList<>();
      byte[] descriptor = standard(1);
      both(descriptor, 80, onto.state.length, 4);
      both(descriptor, 128, S, 2);
      both(descriptor, 132, pathTable(order, true).length, 4);
      System.arraycopy(low(b + 18, 4), 0, descriptor, 140, 4);
      System.arraycopy(high(b + 19, 4), 0, descriptor, 148, 4);
      System.arraycopy(record(tree.get(0), "\0"), 0, descriptor, 156, 34);
      pages.add(descriptor);
      pages.add(standard(255));
      pages.add(pathTable(order, true));
      pages.add(pathTable(order, false));
      for (Item d : order) pages.add(directoryBytes(d));
      byte[] mark = Arrays.copyOf(new byte[] {'M', 'A', 'R', 'K'}, 12);
      System.arraycopy(low(b, 4), 0, mark, 4, 4);
      System.arraycopy(low(number, 4), 0, mark, 8, 4);
      pages.add(mark);
      try {
        for (int i = 0; i < pages.size(); i++) burn(onto, b + 16 + i, pages.get(i));
        return;
      } catch (SectorBad e) {
        // made anew, from the front on
      }
    }
  }

  int commit() {
    if (lost) return -4;
    try {
      for (Item i : tree.values()) {
        if (!i.dir && i.size > 0 && i.extent == null) i.extent = burnFile(i, disc);
        if (!i.dir) i.said = i.size == 0 ? 0 : i.extent;
      }
      burnSession(disc, last + 1);
      return ++last;
    } catch (PowerGone e) {
      return -4;
    } catch (NoRoom e) {
      return -3;
    }
  }

  int compact() {
    if (lost) return -4;
    Disc fresh = new Disc(disc.state.length);
    try {
      for (Item i : tree.values()) if (!i.dir) i.said = i.size == 0 ? 0 : burnFile(i, fresh);
      burnSession(fresh, 1);
    } catch (PowerGone e) {
      return -4;
    } catch (NoRoom e) {
      return -3;
    }
    disc = fresh;
    opened = null;
    for (Item i : tree.values()) if (!i.dir) i.extent = i.said;
    last = 1;
    return 1;
  }

  private List<Integer> marks() {
    List<Integer> found = new ArrayList<>();
    for (int s = 0; s < disc.state.length; s++) {
      if (disc.state[s] != 1 || disc.number(s * S, 4, false) != 0x4D41524BL) continue;
      int base = (int) disc.number(s * S + 4, 4, true);
      int number = (int) disc.number(s * S + 8, 4, true);
      if (number > 0 && base >= 0 && base < s) found.add(s);
    }
    return found;
  }

  private List<Item> readMark(int s) throws Wrong {
    return readSession((int) disc.number(s * S + 4, 4, true));
  }

  int discover() {
    int complete = 0;
    rootAlone();
    last = 0;
    for (int s : marks()) {
      try {
        List<Item> items = readMark(s);
        tree.clear();
        for (Item i : items) {
          tree.put(i.number, i);
          i.seed = -1;
          i.extent = i.dir ? null : (Integer) i.said;
          if (i.dir) i.size = 0;
        }
        next = items.size();
        last = (int) disc.number(s * S + 8, 4, true);
        complete++;
      } catch (Wrong e) {
        // not complete
      }
    }
    if (lost) left = Long.MAX_VALUE;
    lost = false;
    return complete;
  }

  private boolean written(long s) {
    return s >= 0 && s < disc.state.length && disc.state[(int) s] == 1;
  }

  private List<Item> readSession(int b) throws Wrong {
    for (int s = b + 16; s < b + 20; s++) if (!written(s)) throw new Wrong(s * S);
    for (int s = b + 16; s < b + 18; s++) {
      byte[] want = Arrays.copyOf(standard(s == b + 16 ? 1 : 255), 7);
      if (!Arrays.equals(want, Arrays.copyOf(disc.sector[s], 7))) throw new Wrong(s * S);
    }
    int d = (b + 16) * S;
    if (disc.number(d + 128, 4, false) != 0x00080800L) throw new Wrong(d + 128);
    long length = disc.number(d + 132, 4, true);
    if (length != disc.number(d + 136, 4, false) || length > S) throw new Wrong(d + 132);
    if (disc.number(d + 140, 4, true) != b + 18) throw new Wrong(d + 140);
    if (disc.number(d + 148, 4, false) != b + 19) throw new Wrong(d + 148);
    List<Item> items = new ArrayList<>();
    items.add(readRecord(d + 156, "\0"));
    for (int k = 0; k < items.size(); k++) if (items.get(k).dir) readDirectory(items.get(k), items);
    for (int t = 0; t < 2; t++) {
      byte[] want = pathTable(pathOrder(items), t == 0);
      for (int i = 0; i < want.length; i++) {
        if (disc.sector[b + 18 + t][i] != want[i]) throw new Wrong((b + 18 + t) * S + i);
      }
    }
    if (length != pathTable(pathOrder(items), true).length) throw new Wrong(d + 132);
    return items;
  }

  private void readDirectory(Item d, List<Item> items) throws Wrong {
    int records = 0;
    String before = "";
    for (int s = d.said; s < d.said + d.size / S; s++) {
      int offset = 0;
      while (offset < S && disc.sector[s][offset] != 0) {
        int at = s * S + offset;
        Item i = readRecord(at, records == 0 ? "\0" : records == 1 ? "\1" : null);
        if (records < 2) {
          Item same = records == 0 || d.parent == null ? d : d.parent;
          if (i.said != same.said || i.size != same.size) throw new Wrong(at);
        } else {
          if (i.identifier().compareTo(before) <= 0) throw new Wrong(at);
          before = i.identifier();
          i.parent = d;
          i.number = items.size();
          if (items.size() >= 30 || i.dir && i.depth() > 6) throw new Wrong(at);
          for (Item o : items) if (i.dir && o.dir && shareSector(i, o)) throw new Wrong(at);
          items.add(i);
        }
        records++;
        offset += disc.sector[s][offset] & 255;
      }
    }
    if (records < 2) throw new Wrong(d.said * S);
  }

  private static boolean shareSector(Item a, Item b) {
    for (int s = a.said; s < a.said + a.size / S; s++) if (s >= b.said && s < b.said + b.size / S) return true;
    return false;
  }

  private Item readRecord(int at, String special) throws Wrong {
    byte[] page = disc.sector[at / S];
    int offset = at % S;
    int length = page[offset] & 255;
    if (length < 34 || offset + length > S) throw new Wrong(at);
    int idLength = page[offset + 32] & 255;
    if (length != (idLength + 34) / 2 * 2) throw new Wrong(at);
    if (disc.number(at + 2, 4, true) != disc.number(at + 6, 4, false)) throw new Wrong(at);
    if (disc.number(at + 10, 4, true) != disc.number(at + 14, 4, false)) throw new Wrong(at);
    if (disc.number(at + 28, 2, true) != disc.number(at + 30, 2, false)) throw new Wrong(at);
    if (page[offset + 25] != 0 && page[offset + 25] != 2) throw new Wrong(at);
    Item i = new Item();
    i.dir = page[offset + 25] == 2;
    i.said = (int) disc.number(at + 2, 4, true);
    i.size = (int) disc.number(at + 10, 4, true);
    StringBuilder id = new StringBuilder();
    for (int j = 0; j < idLength; j++) id.append((char) (page[offset + 33 + j] & 255));
    String identifier = id.toString();
    if (special != null) {
      if (!identifier.equals(special) || !i.dir) throw new Wrong(at);
    } else {
      if (!identifier.matches(i.dir ? "[A-Z0-9_]{1,8}" : "[A-Z0-9_]{1,8}\\.;1")) throw new Wrong(at);
      i.name = i.dir ? identifier : identifier.substring(0, idLength - 3);
    }
    if (i.size < 0 || i.dir && (i.size == 0 || i.size % S != 0)) throw new Wrong(at);
    if (i.size == 0 && i.said != 0) throw new Wrong(at);
    for (long s = i.said; s < i.said + ((long) i.size + S - 1) / S; s++) if (!written(s)) throw new Wrong(at);
    return i;
  }

  int state(int s) {
    return s < 0 || s >= disc.state.length ? -1 : disc.state[s];
  }

  int byteAt(int address) {
    return address < 0 || address >= disc.state.length * S ? -1 : disc.at(address);
  }

  int spoil(int address, int value) {
    if (byteAt(address) == -1 || disc.state[address / S] != 1) return -1;
    int was = disc.at(address);
    disc.sector[address / S][address % S] = (byte) value;
    return was;
  }

  int writes() {
    return writes;
  }

  int mark(int i, int what) {
    if (i < 0 || i >= marks().size() || what < 0 || what > 3) throw new NoSuchElementException();
    int s = marks().get(i);
    if (what == 0) return s;
    if (what < 3) return (int) disc.number(s * S + 4 * what, 4, true);
    try {
      return readMark(s).size();
    } catch (Wrong e) {
      return -1 - e.place;
    }
  }

  int open(int i) {
    if (i < 0 || i >= marks().size()) return -1000000;
    opened = null;
    try {
      opened = readMark(marks().get(i));
      return opened.size();
    } catch (Wrong e) {
      return -1 - e.place;
    }
  }

  private Item openedItem(int k) {
    if (opened == null || k < 0 || k >= opened.size()) throw new NoSuchElementException();
    return opened.get(k);
  }

  int node(int k, int what) {
    Item i = openedItem(k);
    if (what < 0 || what > 3) throw new NoSuchElementException();
    return new int[] {i.parent == null ? -1 : i.parent.number, i.dir ? 0 : 1, i.size, i.said}[what];
  }

  long name(int k) {
    return Checks.word(openedItem(k).name);
  }

  int read(int k, int i) {
    Item item = openedItem(k);
    if (item.dir || i < 0 || i >= item.size) throw new NoSuchElementException();
    return disc.at(item.said * S + i);
  }

  int tree(int k, int what) {
    Item i = tree.get(k);
    if (i == null || what < 0 || what > 4) throw new NoSuchElementException();
    int extent = i.extent == null || i.size == 0 ? 0 : i.extent;
    return new int[] {i.parent == null ? -1 : i.parent.number, i.dir ? 0 : 1, i.size, i.seed, extent}[what];
  }
}
