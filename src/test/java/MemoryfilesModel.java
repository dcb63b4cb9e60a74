import java.util.ArrayDeque;
import java.util.ArrayList;
import java.util.List;
import java.util.Map;
import java.util.Random;
import java.util.TreeMap;
import java.util.TreeSet;

/**
 * Long runs of chosen calls on the program and on a second, slower one that was written from the document
 * alone and keeps a DISK and a JOURNAL for real; each answer and each digest has to be the same.
 */
public final class MemoryfilesModel {
  private static final int NO = -2;
  private static final int FLAT = -3;
  private static final int THERE = -4;
  private static final int SHUT = -5;
  private static final int DOWN = -6;
  private static final int ROUND = -7;
  private static final int FULL = -8;
  private static final int LADEN = -9;
  private static final int TREE = -10;
  private static final int WITHIN = -11;
  private static final int HELD = -12;

  /** A call came to nothing: this number tells how. */
  private static final class Nothing extends RuntimeException {
    private static final long serialVersionUID = 1L;
    final int answer;

    Nothing(int answer) {
      super(null, null, false, false);
      this.answer = answer;
    }
  }

  private static final class File {
    char kind;
    int owner;
    int rights = 58;
    int time;
    int links;
    int size;
    int soft;
    int parent;
    TreeMap<Integer, Integer> names = new TreeMap<>();
    TreeMap<Integer, Integer> blocks = new TreeMap<>();

    File copy() {
      File f = new File();
      f.kind = kind;
      f.owner = owner;
      f.rights = rights;
      f.time = time;
      f.links = links;
      f.size = size;
      f.soft = soft;
      f.parent = parent;
      f.names = new TreeMap<>(names);
      f.blocks = new TreeMap<>(blocks);
      return f;
    }

    @Override
    public String toString() {
      return kind + " " + owner + " " + rights + " " + time + " " + links + " " + size + " " + soft + " "
          + parent + names + blocks;
    }
  }

  private static final class Block {
    int count;
    int user;
    int[] bytes = new int[8];

    Block copy() {
      Block b = new Block();
      b.count = count;
      b.user = user;
      b.bytes = bytes.clone();
      return b;
    }

    @Override
    public String toString() {
      return count + " " + user + java.util.Arrays.toString(bytes);
    }
  }

  private static TreeMap<Integer, File> copyOf(TreeMap<Integer, File> files) {
    TreeMap<Integer, File> all = new TreeMap<>();
    files.forEach((n, f) -> all.put(n, f.copy()));
    return all;
  }

  private static final class State {
    TreeMap<Integer, File> files = new TreeMap<>();
    TreeMap<Integer, Block> blocks = new TreeMap<>();
    TreeMap<Integer, TreeMap<Integer, File>> slots = new TreeMap<>();
    TreeMap<Integer, Integer> quotas = new TreeMap<>();

    State copy() {
      State s = new State();
      for (int thing = 0; thing < 100; thing++) {
        s.take(thing, thing(thing));
      }
      return s;
    }

    Object thing(int number) {
      if (number < 30) {
        return files.containsKey(number) ? files.get(number).copy() : null;
      }
      if (number < 94) {
        return blocks.containsKey(number - 30) ? blocks.get(number - 30).copy() : null;
      }
      if (number < 96) {
        return slots.containsKey(number - 94) ? copyOf(slots.get(number - 94)) : null;
      }
      return quotas.get(number - 96);
    }

    @SuppressWarnings("unchecked")
    void take(int number, Object thing) {
      TreeMap<Integer, Object> home;
      int key;
      if (number < 30) {
        home = (TreeMap<Integer, Object>) (TreeMap<Integer, ?>) files;
        key = number;
      } else if (number < 94) {
        home = (TreeMap<Integer, Object>) (TreeMap<Integer, ?>) blocks;
        key = number - 30;
      } else if (number < 96) {
        home = (TreeMap<Integer, Object>) (TreeMap<Integer, ?>) slots;
        key = number - 94;
      } else {
        home = (TreeMap<Integer, Object>) (TreeMap<Integer, ?>) quotas;
        key = number - 96;
      }
      if (thing == null) {
        home.remove(key);
      } else {
        home.put(key, thing);
      }
    }

    TreeSet<Integer> otherThan(State other) {
      TreeSet<Integer> all = new TreeSet<>();
      for (int thing = 0; thing < 100; thing++) {
        if (!String.valueOf(thing(thing)).equals(String.valueOf(other.thing(thing)))) {
          all.add(thing);
        }
      }
      return all;
    }
  }

  private static final class Record {
    final char kind;
    final int thing;
    final Object content;

    Record(char kind, int thing, Object content) {
      this.kind = kind;
      this.thing = thing;
      this.content = content;
    }
  }

  private static final class Lock {
    int from;
    int to;
    boolean isAlone;

    Lock(int from, int to, boolean isAlone) {
      this.from = from;
      this.to = to;
      this.isAlone = isAlone;
    }

    boolean meets(Lock other) {
      for (int at = from; at < to; at++) {
        if (at >= other.from && at < other.to && (isAlone || other.isAlone)) {
          return true;
        }
      }
      return false;
    }
  }

  private static final class Handle {
    int file;
    int way;
    int place;
    List<Lock> locks = new ArrayList<>();
    Lock wait;
  }

  private static final class Crash extends RuntimeException {
    private static final long serialVersionUID = 1L;

    Crash() {
      super(null, null, false, false);
    }
  }

  private static final class Model {
    State memory = new State();
    State disk;
    List<Record> journal = new ArrayList<>();
    TreeSet<Integer> dirty = new TreeSet<>();
    Handle[] handles = new Handle[6];
    ArrayDeque<Integer> cache = new ArrayDeque<>();
    List<String> kept = new ArrayList<>();
    TreeSet<Integer> lost = new TreeSet<>();
    TreeMap<Integer, Integer> harmedFiles = new TreeMap<>();
    TreeMap<Integer, Integer> harmedBlocks = new TreeMap<>();
    int user;
    int work;
    int clock;
    int watched = -1;
    int fuse = -1;
    int writes;
    int hits;
    int misses;
    int refused;
    boolean isDown;

    Model() {
      File root = new File();
      root.kind = 'T';
      root.rights = 63;
      root.links = 1;
      memory.files.put(0, root);
      for (int u = 0; u < 4; u++) {
        memory.quotas.put(u, 64);
      }
      disk = memory.copy();
    }

    // the journal

    void written() {
      writes++;
      if (fuse > 0 && --fuse == 0) {
        fall();
        throw new Crash();
      }
    }

    void fall() {
      isDown = true;
      fuse = -1;
      memory = null;
      handles = new Handle[6];
      cache.clear();
      kept.clear();
      watched = -1;
      dirty.clear();
      while (!journal.isEmpty() && journal.get(journal.size() - 1).kind != 'E') {
        journal.remove(journal.size() - 1);
      }
    }

    void flushAll(State state) {
      for (int thing : new ArrayList<>(dirty)) {
        disk.take(thing, state.thing(thing));
        dirty.remove(thing);
        written();
      }
      journal.clear();
      written();
    }

    interface Body {
      int run();
    }

    int starred(Body body) {
      State ahead = memory.copy();
      TreeMap<Integer, Integer> blocksAhead = new TreeMap<>(harmedBlocks);
      TreeMap<Integer, Integer> filesAhead = new TreeMap<>(harmedFiles);
      int answer;
      try {
        answer = body.run();
      } catch (Nothing e) {
        memory = ahead;
        harmedBlocks = blocksAhead;
        harmedFiles = filesAhead;
        return e.answer;
      }
      TreeSet<Integer> changed = memory.otherThan(ahead);
      if (changed.isEmpty()) {
        return answer;
      }
      try {
        if (journal.size() + changed.size() + 2 > 160) {
          flushAll(ahead);
        }
        journal.add(new Record('B', 0, null));
        written();
        for (int thing : changed) {
          journal.add(new Record('R', thing, memory.thing(thing)));
          written();
        }
        journal.add(new Record('E', 0, null));
        written();
      } catch (Crash e) {
        return DOWN;
      }
      dirty.addAll(changed);
      if (watched >= 0) {
        look(ahead, changed);
      }
      if (!memory.files.containsKey(work)) {
        work = 0;
      }
      return answer;
    }

    void look(State ahead, TreeSet<Integer> changed) {
      Map<Integer, Integer> old = ahead.files.get(watched).names;
      File now = memory.files.get(watched);
      Map<Integer, Integer> young = now == null ? new TreeMap<>() : now.names;
      for (int name = 1; name <= 5; name++) {
        Integer was = old.get(name);
        Integer is = young.get(name);
        String sign = "";
        if (was == null && is != null) {
          sign = "+";
        } else if (was != null && is == null) {
          sign = "-";
        } else if (was != null && !was.equals(is)) {
          sign = "*";
        } else if (was != null && changed.contains(is)) {
          sign = "~";
        }
        if (!sign.isEmpty() && kept.size() < 20) {
          kept.add(sign + " abcde".charAt(name));
        }
      }
      if (now == null) {
        watched = -1;
      }
    }

    int mend() {
      if (!isDown) {
        throw new IllegalStateException();
      }
      int calls = 0;
      memory = disk.copy();
      for (Record r : journal) {
        if (r.kind == 'R') {
          State one = new State();
          one.take(r.thing, r.content);
          memory.take(r.thing, one.thing(r.thing));
        } else if (r.kind == 'E') {
          calls++;
        }
      }
      disk = memory.copy();
      journal.clear();
      isDown = false;
      user = 0;
      work = 0;
      harmedFiles.clear();
      harmedBlocks.clear();
      lost.clear();
      memory.files.forEach((n, f) -> {
        if (f.links == 0) {
          lost.add(n);
        }
      });
      return calls;
    }

    // paths

    static void path(int path) {
      int value = path;
      if (value < -16777215 || value > 16777215) {
        throw new IllegalArgumentException();
      }
      String steps = Integer.toString(Math.abs(value), 8);
      if (value != 0 && steps.indexOf('0') >= 0) {
        throw new IllegalArgumentException();
      }
    }

    static void place(int path) {
      path(path);
      int last = Math.abs(path) % 8;
      if (last < 1 || last > 5) {
        throw new IllegalArgumentException();
      }
    }

    static String steps(int path) {
      return path == 0 ? "" : Integer.toString(Math.abs(path), 8);
    }

    int softs;

    int walk(TreeMap<Integer, File> files, boolean isAll, int start, String steps, boolean isFollowed) {
      int here = start;
      for (int i = 0; i < steps.length(); i++) {
        File f = files.get(here);
        if (f.kind != 'T') {
          throw new Nothing(FLAT);
        }
        if (!isAll && !able(f, false)) {
          throw new Nothing(SHUT);
        }
        int step = steps.charAt(i) - '0';
        if (step == 7) {
          here = f.parent;
        } else if (step <= 5) {
          if (!f.names.containsKey(step)) {
            throw new Nothing(NO);
          }
          int next = f.names.get(step);
          File g = files.get(next);
          if (g.kind == 'S' && (i + 1 < steps.length() || isFollowed)) {
            if (++softs == 9) {
              throw new Nothing(ROUND);
            }
            next = walk(files, isAll, g.soft < 0 ? 0 : here, steps(g.soft), true);
          }
          here = next;
        }
      }
      return here;
    }

    int gone(int path, boolean isFollowed) {
      softs = 0;
      return walk(memory.files, false, path < 0 ? 0 : work, steps(path), isFollowed);
    }

    int home(int path) {
      softs = 0;
      String steps = steps(path);
      int d = walk(memory.files, false, path < 0 ? 0 : work, steps.substring(0, steps.length() - 1), true);
      if (file(d).kind != 'T') {
        throw new Nothing(FLAT);
      }
      if (!able(file(d), true)) {
        throw new Nothing(SHUT);
      }
      return d;
    }

    File file(int n) {
      return memory.files.get(n);
    }

    boolean able(File f, boolean isWrite) {
      if (user == 0) {
        return true;
      }
      if (user == f.owner) {
        return (f.rights & (isWrite ? 16 : 32)) != 0;
      }
      if (user / 2 == f.owner / 2) {
        return (f.rights & (isWrite ? 4 : 8)) != 0;
      }
      return (f.rights & (isWrite ? 1 : 2)) != 0;
    }

    // files

    int make(char kind) {
      for (int n = 0; n < 30; n++) {
        if (!memory.files.containsKey(n)) {
          File f = new File();
          f.kind = kind;
          f.owner = user;
          f.time = clock;
          memory.files.put(n, f);
          return n;
        }
      }
      throw new Nothing(FULL);
    }

    void name(int d, int name, int n) {
      file(d).names.put(name, n);
      file(d).time = clock;
      file(n).links++;
      if (file(n).kind == 'T') {
        file(n).parent = d;
      }
    }

    void unname(int d, int name) {
      int n = file(d).names.remove(name);
      file(d).time = clock;
      file(n).links--;
    }

    boolean isOpen(int n) {
      for (Handle h : handles) {
        if (h != null && h.file == n) {
          return true;
        }
      }
      return false;
    }

    boolean endMaybe(int n) {
      if (file(n).links > 0 || isOpen(n)) {
        return false;
      }
      for (int b : file(n).blocks.values()) {
        letGo(b);
      }
      memory.files.remove(n);
      harmedFiles.remove(n);
      return true;
    }

    void letGo(int b) {
      if (--memory.blocks.get(b).count == 0) {
        memory.blocks.remove(b);
        harmedBlocks.remove(b);
      }
    }

    int used(int u) {
      int many = 0;
      for (Block b : memory.blocks.values()) {
        many += b.user == u ? 1 : 0;
      }
      return many;
    }

    int newBlock(int owner) {
      for (int b = 0; b < 64; b++) {
        if (!memory.blocks.containsKey(b)) {
          if (used(owner) >= memory.quotas.get(owner)) {
            break;
          }
          Block block = new Block();
          block.count = 1;
          block.user = owner;
          memory.blocks.put(b, block);
          return b;
        }
      }
      throw new Nothing(FULL);
    }

    void put(File f, int from, int[] bytes) {
      for (int p = 0; p < 10; p++) {
        if (8 * p + 7 < from || 8 * p >= from + bytes.length) {
          continue;
        }
        if (!f.blocks.containsKey(p)) {
          f.blocks.put(p, newBlock(f.owner));
        } else if (memory.blocks.get(f.blocks.get(p)).count > 1) {
          int old = f.blocks.get(p);
          int young = newBlock(f.owner);
          memory.blocks.get(young).bytes = memory.blocks.get(old).bytes.clone();
          letGo(old);
          f.blocks.put(p, young);
        }
        for (int i = 0; i < bytes.length; i++) {
          if ((from + i) / 8 == p) {
            memory.blocks.get(f.blocks.get(p)).bytes[(from + i) % 8] = bytes[i];
          }
        }
      }
    }

    int byteAt(File f, int at) {
      Integer b = f.blocks.get(at / 8);
      return b == null ? 0 : memory.blocks.get(b).bytes[at % 8];
    }

    int make(int path, char kind, int soft) {
      return starred(() -> {
        int d = home(path);
        int name = Math.abs(path) % 8;
        if (file(d).names.containsKey(name)) {
          throw new Nothing(THERE);
        }
        int n = make(kind);
        file(n).soft = soft;
        name(d, name, n);
        return n;
      });
    }

    int link(int from, int to) {
      return starred(() -> {
        int n = gone(from, false);
        if (file(n).kind == 'T') {
          throw new Nothing(TREE);
        }
        int d = home(to);
        if (file(d).names.containsKey(Math.abs(to) % 8)) {
          throw new Nothing(THERE);
        }
        name(d, Math.abs(to) % 8, n);
        return file(n).links;
      });
    }

    int unlink(int path) {
      return starred(() -> {
        int d = home(path);
        Integer n = file(d).names.get(Math.abs(path) % 8);
        if (n == null) {
          throw new Nothing(NO);
        }
        if (!file(n).names.isEmpty()) {
          throw new Nothing(LADEN);
        }
        unname(d, Math.abs(path) % 8);
        int links = file(n).links;
        endMaybe(n);
        return links;
      });
    }

    boolean isUnder(int outer, int inner) {
      return outer == inner || inner != 0 && isUnder(outer, file(inner).parent);
    }

    int move(int from, int to) {
      return starred(() -> {
        int d = home(from);
        Integer n = file(d).names.get(Math.abs(from) % 8);
        if (n == null) {
          throw new Nothing(NO);
        }
        int e = home(to);
        boolean isTree = file(n).kind == 'T';
        if (isTree && isUnder(n, e)) {
          throw new Nothing(WITHIN);
        }
        Integer old = file(e).names.get(Math.abs(to) % 8);
        if (n.equals(old)) {
          return 0;
        }
        if (old != null && isTree && file(old).kind != 'T') {
          throw new Nothing(FLAT);
        }
        if (old != null && isTree && !file(old).names.isEmpty()) {
          throw new Nothing(LADEN);
        }
        if (old != null && !isTree && file(old).kind == 'T') {
          throw new Nothing(TREE);
        }
        unname(d, Math.abs(from) % 8);
        if (old != null) {
          unname(e, Math.abs(to) % 8);
          endMaybe(old);
        }
        name(e, Math.abs(to) % 8, n);
        return old != null ? 1 : 0;
      });
    }

    int rights(int path, int rights) {
      return starred(() -> {
        File f = file(gone(path, true));
        if (user != 0 && user != f.owner) {
          throw new Nothing(SHUT);
        }
        int before = f.rights;
        f.rights = rights;
        return before;
      });
    }

    int quota(int u, int blocks) {
      return user != 0 ? SHUT : starred(() -> memory.quotas.put(u, blocks));
    }

    int cut(int path, int size) {
      return starred(() -> {
        File f = file(gone(path, true));
        if (f.kind == 'T') {
          throw new Nothing(TREE);
        }
        if (!able(f, true)) {
          throw new Nothing(SHUT);
        }
        int before = f.size;
        for (int p = 0; p < 10; p++) {
          if (8 * p >= size && f.blocks.containsKey(p)) {
            letGo(f.blocks.remove(p));
          }
        }
        boolean isLeft = false;
        int end = size;
        while (end % 8 != 0) {
          isLeft |= byteAt(f, end) != 0;
          end++;
        }
        if (isLeft) {
          put(f, size, new int[end - size]);
        }
        if (isLeft || before != size) {
          f.time = clock;
        }
        f.size = size;
        return before;
      });
    }

    int open(int path, int way) {
      try {
        int n = gone(path, true);
        if (file(n).kind == 'T') {
          return TREE;
        }
        boolean isRead = way == 0 || way == 2;
        boolean isWrite = way != 0;
        if (isRead && !able(file(n), false) || isWrite && !able(file(n), true)) {
          return SHUT;
        }
        for (int h = 0; h < 6; h++) {
          if (handles[h] == null) {
            handles[h] = new Handle();
            handles[h].file = n;
            handles[h].way = way;
            return h;
          }
        }
        return FULL;
      } catch (Nothing e) {
        return e.answer;
      }
    }

    Handle handle(int h) {
      if (h < 0 || h > 5 || handles[h] == null) {
        throw new IndexOutOfBoundsException();
      }
      return handles[h];
    }

    int close(int h) {
      int n = handle(h).file;
      return starred(() -> {
        handles[h] = null;
        return endMaybe(n) ? 1 : 0;
      });
    }

    boolean isHeld(int h, Lock wish) {
      for (int g = 0; g < 6; g++) {
        if (g != h && handles[g] != null && isWaitedFor(h, wish, g)) {
          return true;
        }
      }
      return false;
    }

    boolean isWaitedFor(int h, Lock wish, int g) {
      if (g == h || handles[g] == null || handles[g].file != handles[h].file || wish == null) {
        return false;
      }
      for (Lock lock : handles[g].locks) {
        if (lock.meets(wish)) {
          return true;
        }
      }
      return false;
    }

    boolean isRinged(int h) {
      TreeSet<Integer> seen = new TreeSet<>();
      ArrayDeque<Integer> todo = new ArrayDeque<>();
      todo.add(h);
      while (!todo.isEmpty()) {
        int from = todo.poll();
        for (int g = 0; g < 6; g++) {
          if (isWaitedFor(from, handles[from].wait, g) && seen.add(g)) {
            todo.add(g);
          }
        }
      }
      return seen.contains(h);
    }

    String read(int handle, int many) {
      Handle h = handle(handle);
      if (h.way == 1 || h.way == 3) {
        return "-5";
      }
      if (isHeld(handle, new Lock(h.place, h.place + many, false))) {
        return "-12";
      }
      File f = file(h.file);
      StringBuilder all = new StringBuilder();
      TreeSet<Integer> places = new TreeSet<>();
      while (all.length() < many && h.place < f.size) {
        places.add(h.place / 8);
        all.append(byteAt(f, h.place));
        h.place++;
      }
      for (int p : places) {
        Integer b = f.blocks.get(p);
        if (b != null) {
          if (cache.remove(b)) {
            hits++;
          } else {
            misses++;
          }
          cache.addFirst(b);
          if (cache.size() > 4) {
            cache.removeLast();
          }
        }
      }
      return all.toString();
    }

    int write(int handle, int digits, int many) {
      Handle h = handle(handle);
      if (h.way == 0) {
        return SHUT;
      }
      File f = file(h.file);
      int from = h.way == 3 ? f.size : h.place;
      if (from + many > 80) {
        return FULL;
      }
      if (isHeld(handle, new Lock(from, from + many, true))) {
        return HELD;
      }
      String text = "000000000" + digits;
      text = text.substring(text.length() - many);
      int[] bytes = new int[many];
      for (int i = 0; i < many; i++) {
        bytes[i] = text.charAt(i) - '0';
      }
      return starred(() -> {
        File g = file(h.file);
        put(g, from, bytes);
        g.size = Math.max(g.size, from + many);
        g.time = clock;
        h.place = from + many;
        return h.place;
      });
    }

    int lock(int handle, int from, int to, boolean isAlone) {
      Handle h = handle(handle);
      Lock wish = new Lock(from, to, isAlone);
      if (isHeld(handle, wish)) {
        h.wait = wish;
        return HELD;
      }
      if (h.locks.size() == 4) {
        return FULL;
      }
      h.locks.add(wish);
      h.wait = null;
      return h.locks.size();
    }

    int unlock(int handle) {
      Handle h = handle(handle);
      int many = h.locks.size();
      h.locks.clear();
      h.wait = null;
      return many;
    }

    int crash(int many) {
      fuse = many;
      if (many == 0) {
        fall();
        return DOWN;
      }
      return 0;
    }

    int back(int nth) {
      if (nth < 0 || nth >= dirty.size()) {
        throw new IndexOutOfBoundsException();
      }
      int thing = new ArrayList<>(dirty).get(nth);
      disk.take(thing, memory.thing(thing));
      dirty.remove(thing);
      try {
        written();
      } catch (Crash e) {
        return DOWN;
      }
      return dirty.size();
    }

    int flush() {
      int many = journal.size();
      try {
        flushAll(memory);
      } catch (Crash e) {
        return DOWN;
      }
      return many;
    }

    int keep(int slot) {
      return user != 0 ? SHUT : starred(() -> {
        for (File f : memory.files.values()) {
          f.blocks.values().forEach(b -> memory.blocks.get(b).count++);
        }
        TreeMap<Integer, File> old = memory.slots.put(slot, copyOf(memory.files));
        if (old != null) {
          old.values().forEach(f -> f.blocks.values().forEach(this::letGo));
        }
        return memory.files.size();
      });
    }

    int drop(int slot) {
      return user != 0 ? SHUT : starred(() -> {
        int before = memory.blocks.size();
        TreeMap<Integer, File> old = memory.slots.remove(slot);
        if (old != null) {
          old.values().forEach(f -> f.blocks.values().forEach(this::letGo));
        }
        return before - memory.blocks.size();
      });
    }

    int slotByte(int slot, int path, int at) {
      TreeMap<Integer, File> files = memory.slots.get(slot);
      if (files == null) {
        return NO;
      }
      try {
        softs = 0;
        File f = files.get(walk(files, true, 0, steps(path), true));
        if (f.kind == 'T') {
          return TREE;
        }
        return at < f.size ? byteAt(f, at) : -1;
      } catch (Nothing e) {
        return e.answer;
      }
    }

    void readAll(int n) {
      if (file(n).kind != 'S' && !able(file(n), false)) {
        throw new Nothing(SHUT);
      }
      file(n).names.values().forEach(this::readAll);
    }

    int copy(int n, int d, int name) {
      File f = file(n);
      int c = make(f.kind);
      File g = file(c);
      g.rights = f.rights;
      g.size = f.size;
      g.soft = f.soft;
      f.blocks.forEach((p, b) -> {
        g.blocks.put(p, b);
        memory.blocks.get(b).count++;
      });
      int many = 1;
      for (Map.Entry<Integer, Integer> e : f.names.entrySet()) {
        many += copy(e.getValue(), c, e.getKey());
      }
      name(d, name, c);
      return many;
    }

    int copyTree(int from, int to) {
      return starred(() -> {
        int n = gone(from, false);
        int d = home(to);
        if (file(d).names.containsKey(Math.abs(to) % 8)) {
          throw new Nothing(THERE);
        }
        if (file(n).kind == 'T' && isUnder(n, d)) {
          throw new Nothing(WITHIN);
        }
        readAll(n);
        return copy(n, d, Math.abs(to) % 8);
      });
    }

    void writeAll(int n) {
      if (!file(n).names.isEmpty() && !able(file(n), true)) {
        throw new Nothing(SHUT);
      }
      file(n).names.values().forEach(this::writeAll);
    }

    int remove(int d, int name) {
      int n = file(d).names.get(name);
      int many = 1;
      for (int inner : new ArrayList<>(file(n).names.keySet())) {
        many += remove(n, inner);
      }
      unname(d, name);
      endMaybe(n);
      return many;
    }

    int removeTree(int path) {
      return starred(() -> {
        int d = home(path);
        Integer n = file(d).names.get(Math.abs(path) % 8);
        if (n == null) {
          throw new Nothing(NO);
        }
        writeAll(n);
        return remove(d, Math.abs(path) % 8);
      });
    }

    String looks(int n) {
      File f = file(n);
      StringBuilder all = new StringBuilder().append(f.kind);
      if (f.kind == 'S') {
        return all.append(f.soft).toString();
      }
      if (f.kind == 'D') {
        return all.append(bytes(f)).toString();
      }
      f.names.forEach((name, g) -> all.append(name).append('(').append(looks(g)).append(')'));
      return all.toString();
    }

    String bytes(File f) {
      StringBuilder all = new StringBuilder();
      for (int at = 0; at < f.size; at++) {
        all.append(byteAt(f, at));
      }
      return all.toString();
    }

    int compare(int one, int other) {
      try {
        int n = gone(one, false);
        return looks(n).equals(looks(gone(other, false))) ? 1 : 0;
      } catch (Nothing e) {
        return e.answer;
      }
    }

    int adopt(int n, int path) {
      if (!lost.contains(n)) {
        throw new IndexOutOfBoundsException();
      }
      place(path);
      int answer = starred(() -> {
        int d = home(path);
        if (file(d).names.containsKey(Math.abs(path) % 8)) {
          throw new Nothing(THERE);
        }
        name(d, Math.abs(path) % 8, n);
        return n;
      });
      if (answer >= 0) {
        lost.remove(n);
      }
      return answer;
    }

    int purge() {
      int answer = starred(() -> {
        lost.forEach(this::endMaybe);
        return lost.size();
      });
      if (answer >= 0) {
        lost.clear();
      }
      return answer;
    }

    int harm(boolean isBlock, int number) {
      if (isBlock) {
        if (!memory.blocks.containsKey(number)) {
          throw new IndexOutOfBoundsException();
        }
        return memory.blocks.get(number).count + harmedBlocks.merge(number, 1, Integer::sum);
      }
      if (!memory.files.containsKey(number)) {
        throw new IndexOutOfBoundsException();
      }
      return file(number).links + harmedFiles.merge(number, 1, Integer::sum);
    }

    int repair() {
      int many = harmedBlocks.size() + harmedFiles.size();
      harmedBlocks.clear();
      harmedFiles.clear();
      return many;
    }

    String way(int n) {
      if (n == 0) {
        return "/";
      }
      for (Map.Entry<Integer, File> d : memory.files.entrySet()) {
        for (Map.Entry<Integer, Integer> e : d.getValue().names.entrySet()) {
          if (e.getValue() == n) {
            return (d.getKey() == 0 ? "" : way(d.getKey())) + "/" + " abcde".charAt(e.getKey());
          }
        }
      }
      return "?" + n;
    }

    String check() {
      List<String> all = new ArrayList<>();
      harmedFiles.keySet().forEach(n -> all.add("L" + way(n)));
      for (int b : harmedBlocks.keySet()) {
        String way = "-";
        for (Map.Entry<Integer, File> f : memory.files.descendingMap().entrySet()) {
          way = f.getValue().blocks.containsValue(b) ? way(f.getKey()) : way;
        }
        all.add("B" + b + ":" + way);
      }
      return String.join(" ", all);
    }

    String list(int path, int from) {
      try {
        File f = file(gone(path, true));
        if (f.kind != 'T') {
          return "-3";
        }
        if (!able(f, false)) {
          return "-5";
        }
        StringBuilder all = new StringBuilder();
        f.names.tailMap(from).keySet().forEach(name -> all.append(" abcde".charAt(name)));
        return all.toString();
      } catch (Nothing e) {
        return "" + e.answer;
      }
    }

    int ofFile(int n, int what) {
      File f = file(n);
      int opened = 0;
      for (Handle h : handles) {
        opened += h != null && h.file == n ? 1 : 0;
      }
      int size = f.kind == 'D' ? f.size : f.kind == 'T' ? f.names.size() : f.soft;
      int[] all = {"DTS".indexOf(f.kind), f.owner, f.rights, f.time, f.links + harmedFiles.getOrDefault(n, 0), size,
          f.blocks.size(), opened, lost.contains(n) ? 1 : 0};
      return all[what];
    }

    int ofBlock(int b, int what) {
      Block block = memory.blocks.get(b);
      int cached = cache.contains(b) ? 1 : 0;
      if (block == null) {
        return new int[] {0, -1, 0, cached}[what];
      }
      int all = 0;
      for (int one : block.bytes) {
        all += one;
      }
      return new int[] {block.count + harmedBlocks.getOrDefault(b, 0), block.user, all, cached}[what];
    }

    int ofHandle(int n, int what) {
      Handle h = handles[n];
      if (h == null) {
        return -1;
      }
      return new int[] {h.file, h.way, h.place, h.locks.size(), h.wait != null ? 1 : 0, isRinged(n) ? 1 : 0}[what];
    }

    int house(int what) {
      int opened = 0;
      for (Handle h : handles) {
        opened += h != null ? 1 : 0;
      }
      if (isDown) {
        return new int[] {0, 0, clock, -1, 0, 0, 0, journal.size(), 0, -1, 1, writes, hits, misses, 0, 0, 0, refused}[what];
      }
      return new int[] {user, work, clock, watched, memory.files.size(), 64 - memory.blocks.size(), opened,
          journal.size(), dirty.size(), fuse, 0, writes, hits, misses, slotFiles(0), slotFiles(1), lost.size(),
          refused}[what];
    }

    int slotFiles(int slot) {
      return memory.slots.containsKey(slot) ? memory.slots.get(slot).size() : 0;
    }

    long digest() {
      long d = 5900;
      for (int what = 0; what <= 17; what++) {
        d = d * 31 + house(what);
      }
      if (isDown) {
        return d;
      }
      for (int n : memory.files.keySet()) {
        d = d * 31 + n;
        for (int what = 0; what <= 8; what++) {
          d = d * 31 + ofFile(n, what);
        }
        d = d * 31 + way(n).length();
        for (int at = 0; at < file(n).size; at++) {
          d = d * 31 + byteAt(file(n), at);
        }
      }
      for (int b : memory.blocks.keySet()) {
        d = d * 31 + b;
        for (int what = 0; what <= 3; what++) {
          d = d * 31 + ofBlock(b, what);
        }
      }
      for (int u = 0; u < 4; u++) {
        d = d * 31 + memory.quotas.get(u);
      }
      for (int h = 0; h < 6; h++) {
        for (int what = 0; what <= 5; what++) {
          d = d * 31 + ofHandle(h, what);
        }
      }
      return (d * 31 + check().length()) * 31 + 1;
    }
  }

  // the driver

  private static Random random;

  private static int below(int bound) {
    return random.nextInt(bound);
  }

  /** Mostly the way of a FILE that is there, for DATA alone if so wished. */
  private static int somePath(boolean isData) {
    if (!model.isDown && below(4) > 0) {
      List<Integer> all = new ArrayList<>(model.memory.files.keySet());
      all.removeIf(n -> isData && model.file(n).kind == 'T');
      String way = all.isEmpty() ? "?" : model.way(all.get(below(all.size())));
      if (way.length() <= 16 && way.charAt(0) == '/') {
        int path = 0;
        for (int i = 1; i < way.length(); i += 2) {
          path = path * 8 + way.charAt(i) - 'a' + 1;
        }
        return way.length() > 1 ? -path : -6;
      }
    }
    return somePath();
  }

  private static int somePath() {
    if (below(60) == 0) {
      return new int[] {8, 64, -10 * 8, 16777216, -16777216, Integer.MIN_VALUE, Integer.MAX_VALUE}[below(7)];
    }
    int steps = below(8) == 0 ? below(9) : below(4);
    int path = 0;
    for (int i = 0; i < steps; i++) {
      int step = below(9) == 0 ? 6 + below(2) : 1 + below(names);
      path = path * 8 + step;
    }
    return below(3) > 0 ? -path : path;
  }

  private static int someNew() {
    int path = below(2) == 0 ? somePath() : somePath(false);
    if (below(3) == 0) {
      return path;
    }
    return below(30) == 0 ? path : Math.abs(path) < 2097152 ? path * 8 + (path < 0 ? -1 : 1) * (1 + below(names)) : path;
  }

  /** A number of 0 to most, and now and then one beside them. */
  private static int some(int most) {
    return below(40) == 0 ? (below(2) == 0 ? -1 : most + 1) : below(most + 1);
  }

  private static int names;
  private static Model model;
  private static int calm;
  private static boolean isFilling;

  interface Call {
    Object run();
  }

  private static String told(Call call) {
    try {
      return String.valueOf(call.run());
    } catch (IllegalArgumentException | IllegalStateException | IndexOutOfBoundsException e) {
      return "throws " + e.getClass().getSimpleName();
    }
  }

  private static void argument(boolean isGood) {
    if (!isGood) {
      throw new IllegalArgumentException();
    }
  }

  private static void index(boolean isGood) {
    if (!isGood) {
      throw new IndexOutOfBoundsException();
    }
  }

  private static String call;

  /** Tells what both answer to one chosen call, with "|" between. */
  private static String step(Memoryfiles x, Model m) {
    int kind = isFilling ? below(22) : below(100);
    if (kind < 26) {
      return nameStep(kind, x, m);
    }
    if (kind < 62) {
      return handleStep(kind, x, m);
    }
    if (kind < 80) {
      return journalStep(kind, x, m);
    }
    return askStep(kind, x, m);
  }

  private static String both(Memoryfiles x, Model m, String name, Call mine, Call due) {
    call = name;
    String got = told(mine);
    String want = told(() -> m.isDown ? DOWN : due.run());
    return got + "|" + want;
  }

  private static String nameStep(int kind, Memoryfiles x, Model m) {
    int a = someNew();
    int b = someNew();
    int p = somePath(false);
    int r = below(2) == 0 ? 63 : some(63);
    switch (kind) {
      case 0: case 1: case 2: case 3:
        return both(x, m, "makeDirectory " + a, () -> x.makeDirectory(a), () -> {
          Model.place(a);
          return m.make(a, 'T', 0);
        });
      case 4: case 5: case 6: case 7: case 8:
        return both(x, m, "makeFile " + a, () -> x.makeFile(a), () -> {
          Model.place(a);
          return m.make(a, 'D', 0);
        });
      case 9: case 10:
        return both(x, m, "makeSoft " + a + " " + p, () -> x.makeSoft(a, p), () -> {
          Model.place(a);
          Model.path(p);
          return m.make(a, 'S', p);
        });
      case 11: case 12:
        return both(x, m, "link " + p + " " + a, () -> x.link(p, a), () -> {
          Model.path(p);
          Model.place(a);
          return m.link(p, a);
        });
      case 13: case 14:
        return both(x, m, "unlink " + a, () -> x.unlink(a), () -> {
          Model.place(a);
          return m.unlink(a);
        });
      case 15: case 16: case 17:
        return both(x, m, "move " + a + " " + b, () -> x.move(a, b), () -> {
          Model.place(a);
          Model.place(b);
          return m.move(a, b);
        });
      case 18:
        return both(x, m, "rights " + p + " " + r, () -> x.rights(p, r), () -> {
          Model.path(p);
          argument(r >= 0 && r <= 63);
          return m.rights(p, r);
        });
      case 19: case 20: case 21:
        return both(x, m, "copyTree " + p + " " + a, () -> x.copyTree(p, a), () -> {
          Model.path(p);
          Model.place(a);
          return m.copyTree(p, a);
        });
      case 22:
        if (below(3) > 0) {
          return "|";
        }
        return both(x, m, "removeTree " + a, () -> x.removeTree(a), () -> {
          Model.place(a);
          return m.removeTree(a);
        });
      case 23:
        int file = below(6) == 0 ? below(34) - 2 : m.lost.isEmpty() ? 1 : m.lost.first();
        return both(x, m, "adopt " + file + " " + a, () -> x.adopt(file, a), () -> m.adopt(file, a));
      default:
        int size = below(4) == 0 ? some(80) : some(24);
        int data = somePath(true);
        return both(x, m, "cut " + data + " " + size, () -> x.cut(data, size), () -> {
          Model.path(data);
          argument(size >= 0 && size <= 80);
          return m.cut(data, size);
        });
    }
  }

  private static String handleStep(int kind, Memoryfiles x, Model m) {
    int h = below(15) == 0 ? some(5) : below(3);
    int p = somePath(true);
    if (kind < 32) {
      int way = below(3) > 0 ? 2 : some(3);
      return both(x, m, "open " + p + " " + way, () -> x.open(p, way), () -> {
        Model.path(p);
        argument(way >= 0 && way <= 3);
        return m.open(p, way);
      });
    }
    if (kind < 33 || kind < 35 && below(3) == 0) {
      return both(x, m, "close " + h, () -> x.close(h), () -> m.close(h));
    }
    if (kind < 40) {
      int to = some(80);
      return both(x, m, "seek " + h + " " + to, () -> x.seek(h, to), () -> {
        m.handle(h);
        argument(to >= 0 && to <= 80);
        int before = m.handles[h].place;
        m.handles[h].place = to;
        return before;
      });
    }
    if (kind < 45) {
      int many = some(20);
      return both(x, m, "read " + h + " " + many, () -> x.read(h, many), () -> {
        if (m.isDown) {
          return "-6";
        }
        m.handle(h);
        argument(many >= 1 && many <= 20);
        return m.read(h, many);
      });
    }
    if (kind < 55) {
      int digits = below(2147483647) - (below(30) == 0 ? 2147483647 : 0);
      int many = some(9);
      return both(x, m, "write " + h + " " + digits + " " + many, () -> x.write(h, digits, many), () -> {
        m.handle(h);
        argument(digits >= 0 && many >= 1 && many <= 9);
        return m.write(h, digits, many);
      });
    }
    if (kind < 60) {
      int from = below(20) == 0 ? some(80) : below(12);
      int to = below(20) == 0 ? some(80) : from + 1 + below(4);
      boolean isAlone = below(2) == 0;
      return both(x, m, "lock " + h + " " + from + " " + to + " " + isAlone, () -> x.lock(h, from, to, isAlone), () -> {
        m.handle(h);
        argument(from >= 0 && from <= 79 && to > from && to <= 80);
        return m.lock(h, from, to, isAlone);
      });
    }
    return both(x, m, "unlock " + h, () -> x.unlock(h), () -> m.unlock(h));
  }

  private static String journalStep(int kind, Memoryfiles x, Model m) {
    int slot = some(1);
    switch (kind) {
      case 62:
        if (below(calm) > 0) {
          return "|";
        }
        int writes = below(3) == 0 ? some(500) : below(12);
        return both(x, m, "crash " + writes, () -> x.crash(writes), () -> {
          argument(writes >= 0 && writes <= 500);
          return m.crash(writes);
        });
      case 63: case 64: case 65:
        call = "mend";
        if (!m.isDown && below(8) > 0) {
          return "|";
        }
        return told(() -> x.mend()) + "|" + told(() -> m.mend());
      case 66: case 67:
        int nth = m.isDown ? 0 : some(Math.max(m.dirty.size() - 1, 0));
        return both(x, m, "back " + nth, () -> x.back(nth), () -> m.back(nth));
      case 68:
        return both(x, m, "flush", () -> x.flush(), () -> m.flush());
      case 69: case 70:
        return both(x, m, "keep " + slot, () -> x.keep(slot), () -> {
          index(slot >= 0 && slot <= 1);
          return m.keep(slot);
        });
      case 71:
        return both(x, m, "drop " + slot, () -> x.drop(slot), () -> {
          index(slot >= 0 && slot <= 1);
          return m.drop(slot);
        });
      case 72:
        return both(x, m, "purge", () -> x.purge(), () -> m.purge());
      case 73: case 74:
        boolean isBlock = below(2) == 0;
        int number = below(20) == 0 ? some(63) : below(8);
        return both(x, m, "harm " + isBlock + " " + number, () -> x.harm(isBlock, number), () -> m.harm(isBlock, number));
      case 75:
        return below(6) > 0 ? "|" : both(x, m, "repair", () -> x.repair(), () -> m.repair());
      case 76:
        int u = some(3);
        int blocks = below(4) == 0 ? some(6) : some(64);
        return both(x, m, "quota " + u + " " + blocks, () -> x.quota(u, blocks), () -> {
          argument(u >= 0 && u <= 3 && blocks >= 0 && blocks <= 64);
          return m.quota(u, blocks);
        });
      case 77: case 78:
        int time = some(20);
        return both(x, m, "tick " + time, () -> x.tick(time), () -> {
          argument(time >= 0);
          return m.clock += time;
        });
      default:
        call = "knock";
        return x.knock() + "|" + ++m.refused;
    }
  }

  private static String askStep(int kind, Memoryfiles x, Model m) {
    int p = somePath(kind == 94 || kind == 95);
    int q = somePath(false);
    switch (kind) {
      case 80:
        int u = below(2) == 0 ? 0 : some(3);
        return both(x, m, "be " + u, () -> x.be(u), () -> {
          argument(u >= 0 && u <= 3);
          int before = m.user;
          m.user = u;
          return before;
        });
      case 81: case 82:
        return both(x, m, "go " + p, () -> x.go(p), () -> {
          Model.path(p);
          return session(m, p, false);
        });
      case 83:
        return both(x, m, "watch " + p, () -> x.watch(p), () -> {
          Model.path(p);
          return session(m, p, true);
        });
      case 84: case 85:
        return both(x, m, "heard", () -> x.heard(), () -> {
          String all = String.join(" ", m.kept);
          m.kept.clear();
          return all;
        });
      case 86: case 87: case 88:
        boolean isFollowed = below(2) == 0;
        return both(x, m, "find " + p + " " + isFollowed, () -> x.find(p, isFollowed), () -> {
          Model.path(p);
          try {
            return m.gone(p, isFollowed);
          } catch (Nothing e) {
            return e.answer;
          }
        });
      case 89: case 90:
        int from = below(20) == 0 ? some(6) : 1 + below(5);
        return both(x, m, "list " + p + " " + from, () -> x.list(p, from), () -> {
          Model.path(p);
          argument(from >= 1 && from <= 5);
          return m.list(p, from);
        });
      case 91: case 92: case 93:
        return both(x, m, "compare " + p + " " + q, () -> x.compare(p, q), () -> {
          Model.path(p);
          Model.path(q);
          return m.compare(p, q);
        });
      case 94: case 95:
        int slot = some(1);
        int at = below(3) == 0 ? some(79) : below(10);
        return both(x, m, "slotByte " + slot + " " + p + " " + at, () -> x.slotByte(slot, p, at), () -> {
          index(slot >= 0 && slot <= 1);
          Model.path(p);
          argument(at >= 0 && at <= 79);
          return m.slotByte(slot, p, at);
        });
      case 96:
        return both(x, m, "check", () -> x.check(), () -> m.check());
      case 97:
        int n = below(32) - 1;
        return both(x, m, "wayOf " + n, () -> x.wayOf(n), () -> {
          index(m.memory.files.containsKey(n));
          return m.way(n);
        });
      case 98:
        int v = some(3);
        return both(x, m, "ofUser " + v, () -> x.ofUser(v, false), () -> {
          argument(v >= 0 && v <= 3);
          return m.used(v);
        });
      default:
        call = "isSound";
        return x.isSound() + "|true";
    }
  }

  private static int session(Model m, int path, boolean isWatch) {
    try {
      int n = m.gone(path, true);
      if (m.file(n).kind != 'T') {
        return FLAT;
      }
      if (!isWatch) {
        m.work = n;
      } else if (!m.able(m.file(n), false)) {
        return SHUT;
      } else {
        m.watched = n;
        m.kept.clear();
      }
      return n;
    } catch (Nothing e) {
      return e.answer;
    }
  }

  public static void main(String[] args) {
    int runs = args.length > 0 ? Integer.parseInt(args[0]) : 400;
    int first = args.length > 1 ? Integer.parseInt(args[1]) : 0;
    TreeMap<String, Integer> seen = new TreeMap<>();
    for (int run = first; run < first + runs; run++) {
      random = new Random(run);
      names = 1 + below(5);
      Memoryfiles x = new Memoryfiles();
      Model m = new Model();
      model = m;
      calm = 1 + below(12);
      List<String> calls = new ArrayList<>();
      // A digest is a call, too: some runs ask for one each time, the others can be twice as long.
      int rest = 512;
      for (int i = 0; rest > 1; i++) {
        boolean isAsked = run % 3 == 0 || i % 16 == 0 || rest < 4;
        rest -= isAsked ? 2 : 1;
        isFilling = run % 4 == 0 && i % 256 < 90;
        String answers = step(x, m);
        int bar = answers.indexOf('|');
        String got = answers.substring(0, bar);
        String want = answers.substring(bar + 1);
        calls.add(call + " = " + got);
        String key = call.split(" ")[0] + (want.matches("-[0-9]+|throws.*") ? " " + want : "");
        seen.merge(key, 1, Integer::sum);
        if (!got.equals(want) || isAsked && x.digest() != m.digest()) {
          System.out.println("run " + run + ", call " + i + ": due is " + want
              + (got.equals(want) ? ", but the digests differ" : ""));
          calls.forEach(one -> System.out.println("  " + one));
          System.exit(1);
        }
      }
    }
    if (args.length > 2) {
      System.out.println(seen);
    }
    System.out.println(runs + " runs answered as the second program");
  }
}
