/** A file system in memory, as ../shared/DOC.md promises it. */
public final class Memoryfiles {
  private static final int NONE = -1;
  private static final int NO = -2;
  private static final int FLAT = -3;
  private static final int THERE = -4;
  private static final int SHUT = -5;
  private static final int DOWN = -6;
  private static final int ROUND = -7;
  private static final int FULL = -8;
  private static final int LADEN = -9;
  private static final int TREE = -10;
  private static final int WITHIN = -11;
  private static final int HELD = -12;

  private static final int ROOT = 0;
  private static final int FILES = 30;
  private static final int NAMES = 5;
  private static final int BLOCKS = 64;
  private static final int USERS = 4;
  private static final int SLOTS = 2;
  private static final int HANDLES = 6;
  private static final int HANDLE_LOCKS = 4;
  private static final int PLACES = 10;
  private static final int BLOCK_BYTES = 8;
  private static final int MOST_BYTES = 80;
  private static final int MOST_SOFT = 8;
  private static final int MOST_PATH = 16777215;
  private static final int MOST_CLOCK = 1000000;
  private static final int MOST_RECORDS = 160;
  private static final int MOST_HEARD = 20;
  private static final int CACHED = 4;

  // Kinds are one more than ofFile() tells, so that cells of 0 are no FILE.
  private static final int DATA = 1;
  private static final int DIRECTORY = 2;
  private static final int SOFT = 3;

  // The cells of a FILE. NAMES and BLOCKS are kept as one more than their number: 0 is none.
  private static final int KIND = 0;
  private static final int OWNER = 1;
  private static final int RIGHTS = 2;
  private static final int TIME = 3;
  private static final int LINKS = 4;
  private static final int SIZE = 5; // of a SOFT one its PATH
  private static final int PARENT = 6;
  private static final int NAME_CELLS = 6; // the NAMES 1 to 5 lie at 7 to 11
  private static final int PLACE_CELLS = 12;
  private static final int FILE_CELLS = 22;

  // The cells of a BLOCK.
  private static final int COUNT = 0;
  private static final int USER = 1;
  private static final int BYTE_CELLS = 2;
  private static final int BLOCK_CELLS = 10;

  // Where the cells of all THINGS lie: three sets of FILES (MEMORY, SLOT 0, SLOT 1), BLOCKS, QUOTAS.
  private static final int MEMORY = 0;
  private static final int SETS = 3;
  private static final int SET_CELLS = FILES * FILE_CELLS;
  private static final int FIRST_BLOCK_CELL = SETS * SET_CELLS;
  private static final int FIRST_QUOTA_CELL = FIRST_BLOCK_CELL + BLOCKS * BLOCK_CELLS;
  private static final int ALL_CELLS = FIRST_QUOTA_CELL + USERS;

  // The order of THINGS.
  private static final int BLOCK_THINGS = FILES;
  private static final int SLOT_THINGS = BLOCK_THINGS + BLOCKS;
  private static final int QUOTA_THINGS = SLOT_THINGS + SLOTS;
  private static final int THINGS = QUOTA_THINGS + USERS;

  /** A row of numbers that no index can break: outside it all is 0, and nothing can be put there. */
  private static final class Row {
    private final int[] cells;

    Row(int length) {
      cells = new int[length > 0 ? length : 0];
    }

    int at(int index) {
      return index >= 0 && index < cells.length ? cells[index] : 0;
    }

    void put(int index, int value) {
      if (index >= 0 && index < cells.length) {
        cells[index] = value;
      }
    }

    void add(int index, int more) {
      if (index >= 0 && index < cells.length) {
        cells[index] += more;
      }
    }

    void clear(int from, int many) {
      for (int i = from; from >= 0 && i < from + many && i < cells.length; i++) {
        cells[i] = 0;
      }
    }

    void clearAll() {
      for (int i = 0; i < cells.length; i++) {
        cells[i] = 0;
      }
    }

    void takeAll(Row other) {
      for (int i = 0; i < cells.length; i++) {
        cells[i] = other.at(i);
      }
    }

    boolean isSame(Row other, int from, int many) {
      for (int i = from; i < from + many; i++) {
        if (at(i) != other.at(i)) {
          return false;
        }
      }
      return true;
    }

    int sum() {
      int all = 0;
      for (int i = 0; i < cells.length; i++) {
        all += cells[i];
      }
      return all;
    }

    int countSet() {
      int many = 0;
      for (int i = 0; i < cells.length; i++) {
        many += cells[i] != 0 ? 1 : 0;
      }
      return many;
    }
  }

  /** All THINGS, as one row of cells, so that two states are compared and copied cell by cell. */
  private static final class Things {
    private final Row cells = new Row(ALL_CELLS);
    // BLOCKS that were free for a while in this call: HARM ends then, even if they are used again.
    private final Row freed = new Row(BLOCKS);

    Things() {
      cells.put(KIND, DIRECTORY);
      cells.put(RIGHTS, 63);
      cells.put(LINKS, 1);
      for (int user = 0; user < USERS; user++) {
        cells.put(FIRST_QUOTA_CELL + user, BLOCKS);
      }
    }

    void takeAll(Things other) {
      cells.takeAll(other.cells);
      freed.clearAll();
    }

    void forgetFreed() {
      freed.clearAll();
    }

    boolean isSameAs(Things other) {
      return cells.isSame(other.cells, 0, ALL_CELLS);
    }

    int markChanged(Things before, Row changed) {
      for (int thing = 0; thing < THINGS; thing++) {
        boolean isSame = cells.isSame(before.cells, firstCell(thing), cellsOf(thing));
        changed.put(thing, isSame ? 0 : 1);
      }
      return changed.sum();
    }

    private static int firstCell(int thing) {
      if (thing < BLOCK_THINGS) {
        return thing * FILE_CELLS;
      }
      if (thing < SLOT_THINGS) {
        return FIRST_BLOCK_CELL + (thing - BLOCK_THINGS) * BLOCK_CELLS;
      }
      if (thing < QUOTA_THINGS) {
        return (thing - SLOT_THINGS + 1) * SET_CELLS;
      }
      return FIRST_QUOTA_CELL + thing - QUOTA_THINGS;
    }

    private static int cellsOf(int thing) {
      if (thing < BLOCK_THINGS) {
        return FILE_CELLS;
      }
      if (thing < SLOT_THINGS) {
        return BLOCK_CELLS;
      }
      return thing < QUOTA_THINGS ? SET_CELLS : 1;
    }

    // FILES

    private static int fileCell(int set, int file, int part) {
      boolean isOne = set >= 0 && set < SETS && file >= 0 && file < FILES;
      return isOne && part >= 0 && part < FILE_CELLS ? set * SET_CELLS + file * FILE_CELLS + part : NONE;
    }

    int partIn(int set, int file, int part) {
      return cells.at(fileCell(set, file, part));
    }

    int part(int file, int part) {
      return cells.at(fileCell(MEMORY, file, part));
    }

    void putPart(int file, int part, int value) {
      cells.put(fileCell(MEMORY, file, part), value);
    }

    boolean isThere(int file) {
      return cells.at(fileCell(MEMORY, file, KIND)) != 0;
    }

    boolean isDirectory(int file) {
      return cells.at(fileCell(MEMORY, file, KIND)) == DIRECTORY;
    }

    int namedIn(int set, int directory, int name) {
      return name < 1 || name > NAMES ? NONE : cells.at(fileCell(set, directory, NAME_CELLS + name)) - 1;
    }

    int named(int directory, int name) {
      return name < 1 || name > NAMES ? NONE : cells.at(fileCell(MEMORY, directory, NAME_CELLS + name)) - 1;
    }

    int countNames(int directory) {
      int many = 0;
      for (int name = 1; name <= NAMES; name++) {
        many += named(directory, name) >= 0 ? 1 : 0;
      }
      return many;
    }

    int countFiles(int set) {
      int many = 0;
      for (int file = 0; file < FILES; file++) {
        many += partIn(set, file, KIND) != 0 ? 1 : 0;
      }
      return many;
    }

    /** The new FILE, or NONE if there are all. */
    int makeNew(int kind, int owner, int time) {
      for (int file = 0; file < FILES; file++) {
        if (!isThere(file)) {
          putPart(file, KIND, kind);
          putPart(file, OWNER, owner);
          putPart(file, RIGHTS, 58);
          putPart(file, TIME, time);
          return file;
        }
      }
      return NONE;
    }

    /** Lets a NAME lead to a FILE that has one LINK more by that. */
    void giveName(int directory, int name, int file, int time) {
      leadName(directory, name, file, time);
      putPart(file, LINKS, part(file, LINKS) + 1);
    }

    /** Lets a NAME lead to a FILE, or to none, and leaves LINKS to the caller. */
    void leadName(int directory, int name, int file, int time) {
      if (name < 1 || name > NAMES) {
        return;
      }
      putPart(directory, NAME_CELLS + name, file + 1);
      putPart(directory, TIME, time);
      if (isDirectory(file)) {
        putPart(file, PARENT, directory);
      }
    }

    void makeGone(int file) {
      for (int place = 0; place < PLACES; place++) {
        letGo(blockAt(file, place));
      }
      cells.clear(fileCell(MEMORY, file, 0), FILE_CELLS);
    }

    boolean isAble(int user, int file, boolean isWrite) {
      int owner = cells.at(fileCell(MEMORY, file, OWNER));
      int given = cells.at(fileCell(MEMORY, file, RIGHTS));
      int bit = 2;
      if (user == owner) {
        bit = 32;
      } else if (user >> 1 == owner >> 1) {
        bit = 8;
      }
      return user == 0 || (given & (isWrite ? bit >> 1 : bit)) != 0;
    }

    /** Whether the one DIRECTORY is the other, or lies around it. */
    boolean isAround(int outer, int inner) {
      int here = inner;
      for (int i = 0; i < FILES && here != outer && here != ROOT; i++) {
        here = part(here, PARENT);
      }
      return here == outer;
    }

    // BLOCKS

    private static int blockCell(int block, int part) {
      boolean isOne = block >= 0 && block < BLOCKS && part >= 0 && part < BLOCK_CELLS;
      return isOne ? FIRST_BLOCK_CELL + block * BLOCK_CELLS + part : NONE;
    }

    int blockPart(int block, int part) {
      return cells.at(blockCell(block, part));
    }

    boolean isFree(int block) {
      return cells.at(blockCell(block, COUNT)) == 0;
    }

    boolean wasFreed(int block) {
      return freed.at(block) != 0;
    }

    int countFree() {
      int many = 0;
      for (int block = 0; block < BLOCKS; block++) {
        many += isFree(block) ? 1 : 0;
      }
      return many;
    }

    int countUsed(int user) {
      int many = 0;
      for (int block = 0; block < BLOCKS; block++) {
        boolean isHis = cells.at(blockCell(block, USER)) == user;
        many += isHis && cells.at(blockCell(block, COUNT)) > 0 ? 1 : 0;
      }
      return many;
    }

    int quotaOf(int user) {
      return user < 0 || user >= USERS ? 0 : cells.at(FIRST_QUOTA_CELL + user);
    }

    void putQuota(int user, int blocks) {
      if (user >= 0 && user < USERS) {
        cells.put(FIRST_QUOTA_CELL + user, blocks);
      }
    }

    int blockIn(int set, int file, int place) {
      return place < 0 || place >= PLACES ? NONE : cells.at(fileCell(set, file, PLACE_CELLS + place)) - 1;
    }

    int blockAt(int file, int place) {
      return place < 0 || place >= PLACES ? NONE : cells.at(fileCell(MEMORY, file, PLACE_CELLS + place)) - 1;
    }

    private void putBlock(int file, int place, int block) {
      if (place >= 0 && place < PLACES) {
        cells.put(fileCell(MEMORY, file, PLACE_CELLS + place), block + 1);
      }
    }

    int countBlocks(int file) {
      int many = 0;
      for (int place = 0; place < PLACES; place++) {
        many += blockAt(file, place) >= 0 ? 1 : 0;
      }
      return many;
    }

    int byteIn(int set, int file, int index) {
      if (index < 0 || index >= MOST_BYTES) {
        return 0;
      }
      return blockPart(blockIn(set, file, index / BLOCK_BYTES), BYTE_CELLS + index % BLOCK_BYTES);
    }

    int sumBytes(int block) {
      int all = 0;
      for (int i = 0; i < BLOCK_BYTES; i++) {
        all += blockPart(block, BYTE_CELLS + i);
      }
      return all;
    }

    private void letGo(int block) {
      int many = cells.at(blockCell(block, COUNT));
      if (many == 0) {
        return;
      }
      cells.put(blockCell(block, COUNT), many - 1);
      if (many == 1) {
        freed.put(block, 1);
        cells.clear(blockCell(block, 0), BLOCK_CELLS);
      }
    }

    void dropPlace(int file, int place) {
      letGo(blockAt(file, place));
      putBlock(file, place, NONE);
    }

    void sharePlaces(int from, int to) {
      for (int place = 0; place < PLACES; place++) {
        int block = blockAt(from, place);
        putBlock(to, place, block);
        cells.add(blockCell(block, COUNT), 1);
      }
    }

    private int makeBlock(int user) {
      if (countUsed(user) >= quotaOf(user)) {
        return NONE;
      }
      for (int block = 0; block < BLOCKS; block++) {
        if (isFree(block)) {
          cells.put(blockCell(block, COUNT), 1);
          cells.put(blockCell(block, USER), user);
          return block;
        }
      }
      return NONE;
    }

    /** Whether the FILE has a BLOCK of its own there then; false, if a new one does not fit. */
    private boolean ownPlace(int file, int place) {
      int old = blockAt(file, place);
      if (old >= 0 && blockPart(old, COUNT) == 1) {
        return true;
      }
      int block = makeBlock(part(file, OWNER));
      if (block < 0) {
        return false;
      }
      for (int i = 0; i < BLOCK_BYTES && old >= 0; i++) {
        cells.put(blockCell(block, BYTE_CELLS + i), blockPart(old, BYTE_CELLS + i));
      }
      letGo(old);
      putBlock(file, place, block);
      return true;
    }

    /** Whether all BYTES from one to below another one lie in BLOCKS of the FILE alone then. */
    boolean ownBytes(int file, int from, int to) {
      for (int place = from / BLOCK_BYTES; place < PLACES && place * BLOCK_BYTES < to; place++) {
        if (!ownPlace(file, place)) {
          return false;
        }
      }
      return true;
    }

    void putByte(int file, int index, int value) {
      if (index >= 0 && index < MOST_BYTES) {
        int block = blockAt(file, index / BLOCK_BYTES);
        cells.put(blockCell(block, BYTE_CELLS + index % BLOCK_BYTES), value);
      }
    }

    // SLOTS

    private void countSet(int set, boolean isMore) {
      for (int file = 0; file < FILES; file++) {
        for (int place = 0; place < PLACES; place++) {
          int block = blockIn(set, file, place);
          if (isMore) {
            cells.add(blockCell(block, COUNT), 1);
          } else {
            letGo(block);
          }
        }
      }
    }

    void keepSet(int set) {
      // Counted first: what both states have must not become free in between.
      countSet(MEMORY, true);
      countSet(set, false);
      for (int i = 0; i < SET_CELLS; i++) {
        cells.put(set * SET_CELLS + i, cells.at(i));
      }
    }

    void dropSet(int set) {
      countSet(set, false);
      cells.clear(set * SET_CELLS, SET_CELLS);
    }
  }

  /** GOES PATHS. */
  private static final class Paths {
    private final Things things;
    private int softs = 0;

    Paths(Things things) {
      this.things = things;
    }

    static boolean isPath(int path) {
      if (path < -MOST_PATH || path > MOST_PATH) {
        return false;
      }
      int value = Math.abs(path);
      for (int shift = 0; shift < 24 && value >> shift != 0; shift += 3) {
        if ((value >> shift & 7) == 0) {
          return false;
        }
      }
      return true;
    }

    static int lastStep(int path) {
      return Math.abs(path) & 7;
    }

    static boolean isPlace(int path) {
      return isPath(path) && lastStep(path) >= 1 && lastStep(path) <= NAMES;
    }

    /** The FILE at which it ends, or what it came to. */
    int goal(int set, int user, int start, int path, boolean isFollowed) {
      softs = 0;
      return follow(set, user, path < 0 ? ROOT : start, Math.abs(path), isFollowed);
    }

    /** The DIRECTORY of a PLACE, or what it came to. */
    int directoryOf(int user, int start, int path) {
      softs = 0;
      int directory = follow(MEMORY, user, path < 0 ? ROOT : start, Math.abs(path) >> 3, true);
      if (directory < 0) {
        return directory;
      }
      if (!things.isDirectory(directory)) {
        return FLAT;
      }
      return things.isAble(user, directory, true) ? directory : SHUT;
    }

    // It calls itself once for each SOFT one, of which the ninth is refused.
    private int follow(int set, int user, int start, int steps, boolean isFollowed) {
      int here = start;
      for (int shift = 21; shift >= 0; shift -= 3) {
        int step = steps >> shift & 7;
        if (step == 0) {
          continue;
        }
        int next = oneStep(set, user, here, step);
        if (next >= 0 && things.partIn(set, next, KIND) == SOFT && (shift > 0 || isFollowed)) {
          softs++;
          if (softs > MOST_SOFT) {
            return ROUND;
          }
          int path = things.partIn(set, next, SIZE);
          next = follow(set, user, path < 0 ? ROOT : here, Math.abs(path), true);
        }
        if (next < 0) {
          return next;
        }
        here = next;
      }
      return here;
    }

    private int oneStep(int set, int user, int here, int step) {
      if (things.partIn(set, here, KIND) != DIRECTORY) {
        return FLAT;
      }
      // In a SLOT all may be READ.
      if (set == MEMORY && !things.isAble(user, here, false)) {
        return SHUT;
      }
      if (step > NAMES) {
        return step == 6 ? here : things.partIn(set, here, PARENT);
      }
      int next = things.namedIn(set, here, step);
      return next < 0 ? NO : next;
    }
  }

  /** HANDLES and their LOCKS. */
  private static final class Handles {
    private static final int FROM = 0;
    private static final int TO = 1;
    private static final int ALONE = 2;
    private static final int LOCK_CELLS = 3;

    private final Row files = new Row(HANDLES); // one more than the number: 0 is not open
    private final Row ways = new Row(HANDLES);
    private final Row spots = new Row(HANDLES);
    private final Row lockCounts = new Row(HANDLES);
    private final Row locks = new Row(HANDLES * HANDLE_LOCKS * LOCK_CELLS);
    private final Row waits = new Row(HANDLES * LOCK_CELLS); // TO of 0: it does not WAIT

    int fileOf(int handle) {
      return files.at(handle) - 1;
    }

    boolean isOpen(int handle) {
      return files.at(handle) > 0;
    }

    int countOpen() {
      return files.countSet();
    }

    int countOn(int file) {
      int many = 0;
      for (int handle = 0; handle < HANDLES; handle++) {
        many += file >= 0 && files.at(handle) == file + 1 ? 1 : 0;
      }
      return many;
    }

    /** The new HANDLE, or NONE if all are open. */
    int begin(int file, int way) {
      for (int handle = 0; handle < HANDLES; handle++) {
        if (!isOpen(handle)) {
          files.put(handle, file + 1);
          ways.put(handle, way);
          spots.put(handle, 0);
          dropLocks(handle);
          return handle;
        }
      }
      return NONE;
    }

    void end(int handle) {
      files.put(handle, 0);
    }

    void endAll() {
      // LOCKS and what is WAITED for end as a HANDLE begins anew.
      files.clearAll();
    }

    int wayOfUse(int handle) {
      return ways.at(handle);
    }

    int spotOf(int handle) {
      return spots.at(handle);
    }

    void putSpot(int handle, int place) {
      spots.put(handle, place);
    }

    int countLocks(int handle) {
      return lockCounts.at(handle);
    }

    boolean isWaiting(int handle) {
      return waits.at(handle * LOCK_CELLS + TO) > 0;
    }

    void stopWaiting(int handle) {
      putSpan(waits, handle * LOCK_CELLS, 0, 0, false);
    }

    void startWaiting(int handle, int from, int to, boolean isAlone) {
      putSpan(waits, handle * LOCK_CELLS, from, to, isAlone);
    }

    void addLock(int handle, int from, int to, boolean isAlone) {
      int many = countLocks(handle);
      if (many < HANDLE_LOCKS) {
        putSpan(locks, (handle * HANDLE_LOCKS + many) * LOCK_CELLS, from, to, isAlone);
        lockCounts.put(handle, many + 1);
      }
    }

    void dropLocks(int handle) {
      lockCounts.put(handle, 0);
      stopWaiting(handle);
    }

    private static void putSpan(Row row, int cell, int from, int to, boolean isAlone) {
      row.put(cell + FROM, from);
      row.put(cell + TO, to);
      row.put(cell + ALONE, isAlone ? 1 : 0);
    }

    /** Whether a LOCK from one place to below another would MEET one of that other HANDLE. */
    private boolean isMeeting(int handle, int other, int from, int to, boolean isAlone) {
      if (handle == other || !isOpen(other) || fileOf(other) != fileOf(handle)) {
        return false;
      }
      for (int i = 0; i < countLocks(other); i++) {
        int cell = (other * HANDLE_LOCKS + i) * LOCK_CELLS;
        boolean isCommon = from < locks.at(cell + TO) && locks.at(cell + FROM) < to;
        if (isCommon && (isAlone || locks.at(cell + ALONE) == 1)) {
          return true;
        }
      }
      return false;
    }

    boolean isHeld(int handle, int from, int to, boolean isAlone) {
      for (int other = 0; other < HANDLES; other++) {
        if (isMeeting(handle, other, from, to, isAlone)) {
          return true;
        }
      }
      return false;
    }

    private boolean isWaitingFor(int handle, int other) {
      int cell = handle * LOCK_CELLS;
      return isWaiting(handle)
          && isMeeting(handle, other, waits.at(cell + FROM), waits.at(cell + TO), waits.at(cell + ALONE) == 1);
    }

    boolean isRinged(int handle) {
      int reached = 1 << handle;
      boolean isBack = false;
      // Each round reaches one HANDLE more, or none at all.
      for (int round = 0; round < HANDLES; round++) {
        for (int i = 0; i < HANDLES * HANDLES; i++) {
          int from = i / HANDLES;
          int to = i % HANDLES;
          if ((reached >> from & 1) == 1 && isWaitingFor(from, to)) {
            reached |= 1 << to;
            isBack |= to == handle;
          }
        }
      }
      return isBack;
    }
  }

  /**
   * The JOURNAL, and the WRITES that may crash the machine. What RECORDS and the DISK hold is not kept
   * here: what is put BACK is MEMORY behind some END, and MENDING does the later RECORDS again over it,
   * so that both together always tell MEMORY as it was behind the last END; that is kept once, outside.
   */
  private static final class Journal {
    private final Row dirty = new Row(THINGS);
    private int records = 0;
    private int sealed = 0; // RECORDS up to the last END
    private int calls = 0;
    private int writes = 0;
    private int fuse = NONE;
    private boolean isDown = false;

    boolean hasRoom(int things) {
      return records + things + 2 <= MOST_RECORDS;
    }

    int countDirty() {
      return dirty.sum();
    }

    void tellCrash(int many) {
      fuse = many;
      if (many == 0) {
        fallDown();
      }
    }

    private void fallDown() {
      isDown = true;
      fuse = NONE;
      records = sealed;
      dirty.clearAll();
    }

    void riseAgain() {
      isDown = false;
      forgetRecords();
    }

    private void forgetRecords() {
      records = 0;
      sealed = 0;
      calls = 0;
    }

    private void countWrite() {
      writes++;
      if (fuse > 0) {
        fuse--;
        if (fuse == 0) {
          fallDown();
        }
      }
    }

    /** Puts the nth DIRTY THING BACK. */
    void putBack(int nth) {
      int seen = 0;
      for (int thing = 0; thing < THINGS; thing++) {
        if (dirty.at(thing) == 1) {
          if (seen == nth) {
            dirty.put(thing, 0);
            countWrite();
            return;
          }
          seen++;
        }
      }
    }

    void putAllBack() {
      for (int thing = 0; thing < THINGS && !isDown; thing++) {
        if (dirty.at(thing) == 1) {
          dirty.put(thing, 0);
          countWrite();
        }
      }
      if (!isDown) {
        forgetRecords();
        countWrite();
      }
    }

    /** Whether the END is WRITTEN, so that the call has happened (perhaps as the last WRITE). */
    boolean record(Row changed) {
      addRecord();
      for (int thing = 0; thing < THINGS && !isDown; thing++) {
        if (changed.at(thing) == 1) {
          addRecord();
        }
      }
      if (isDown) {
        return false;
      }
      for (int thing = 0; thing < THINGS; thing++) {
        if (changed.at(thing) == 1) {
          dirty.put(thing, 1);
        }
      }
      calls++;
      sealed = records + 1;
      addRecord();
      return true;
    }

    private void addRecord() {
      records++;
      countWrite();
    }
  }

  /** The CACHE. */
  private static final class Cache {
    private final Row blocks = new Row(CACHED); // one more than the number, the last touched first
    private int hits = 0;
    private int misses = 0;

    private int spotOf(int block) {
      for (int i = 0; i < CACHED; i++) {
        if (blocks.at(i) == block + 1) {
          return i;
        }
      }
      return NONE;
    }

    boolean has(int block) {
      return spotOf(block) >= 0;
    }

    void touch(int block) {
      int spot = spotOf(block);
      if (spot < 0) {
        misses++;
        spot = CACHED - 1;
      } else {
        hits++;
      }
      for (int i = spot; i > 0; i--) {
        blocks.put(i, blocks.at(i - 1));
      }
      blocks.put(0, block + 1);
    }

    void empty() {
      blocks.clearAll();
    }
  }

  /** What is watched, and what was kept of it. */
  private static final class Watcher {
    private final StringBuilder kept = new StringBuilder();
    private int many = 0;
    private int watched = NONE;

    void begin(int directory) {
      watched = directory;
      empty();
    }

    private void empty() {
      many = 0;
      kept.setLength(0);
    }

    String tellAll() {
      String all = kept.toString();
      empty();
      return all;
    }

    void note(Things before, Things now, Row changed) {
      if (watched < 0) {
        return;
      }
      for (int name = 1; name <= NAMES; name++) {
        int old = before.named(watched, name);
        int young = now.named(watched, name);
        if (old < 0 && young >= 0) {
          keepOne('+', name);
        } else if (old >= 0 && young < 0) {
          keepOne('-', name);
        } else if (old != young) {
          keepOne('*', name);
        } else if (old >= 0 && changed.at(old) == 1) {
          keepOne('~', name);
        }
      }
      if (!now.isThere(watched)) {
        watched = NONE;
      }
    }

    private void keepOne(char sign, int name) {
      if (many < MOST_HEARD) {
        if (many > 0) {
          kept.append(' ');
        }
        kept.append(sign).append(letter(name));
        many++;
      }
    }
  }

  /** HARM. */
  private static final class Faults {
    private final Row files = new Row(FILES);
    private final Row blocks = new Row(BLOCKS);

    int ofFiles(int file) {
      return files.at(file);
    }

    int ofBlocks(int block) {
      return blocks.at(block);
    }

    void add(boolean isBlock, int number) {
      (isBlock ? blocks : files).add(number, 1);
    }

    int count() {
      return files.countSet() + blocks.countSet();
    }

    void endAll() {
      files.clearAll();
      blocks.clearAll();
    }

    void endOfGone(Things things) {
      for (int file = 0; file < FILES; file++) {
        if (!things.isThere(file)) {
          files.put(file, 0);
        }
      }
      for (int block = 0; block < BLOCKS; block++) {
        if (things.isFree(block) || things.wasFreed(block)) {
          blocks.put(block, 0);
        }
      }
    }
  }

  /** What is done with a FILE and all that is in it. DIRECTORIES are at most FILES deep: so are the calls. */
  private static final class Trees {
    private final Things things;
    private final Handles handles;

    Trees(Things things, Handles handles) {
      this.things = things;
      this.handles = handles;
    }

    void loseLink(int file) {
      things.putPart(file, LINKS, things.part(file, LINKS) - 1);
      if (isLost(file)) {
        things.makeGone(file);
      }
    }

    /** Whether the FILE is GONE: it has no LINKS, and no HANDLE has it open. */
    boolean endIfLost(int file) {
      if (!isLost(file)) {
        return false;
      }
      things.makeGone(file);
      return true;
    }

    /** A FILE that stands so when a call ends is LOST: none but MENDING leaves such. */
    boolean isLost(int file) {
      return things.isThere(file) && things.part(file, LINKS) == 0 && handles.countOn(file) == 0;
    }

    int countLost() {
      int many = 0;
      for (int file = 0; file < FILES; file++) {
        many += isLost(file) ? 1 : 0;
      }
      return many;
    }

    int endLost() {
      int many = 0;
      for (int file = 0; file < FILES; file++) {
        many += endIfLost(file) ? 1 : 0;
      }
      return many;
    }

    /** How many FILES a copy of it would have: each NAME in it is one. */
    int countCopies(int file) {
      return countFrom(file, 0);
    }

    private int countFrom(int file, int depth) {
      int many = 1;
      for (int name = 1; name <= NAMES && depth < FILES; name++) {
        int next = things.named(file, name);
        many += next < 0 ? 0 : countFrom(next, depth + 1);
      }
      return many;
    }

    /** Whether the USER is ABLE to READ all of a FILE and what is in it, SOFT ones aside. */
    boolean isReadable(int user, int file) {
      return isReadableFrom(user, file, 0);
    }

    private boolean isReadableFrom(int user, int file, int depth) {
      if (things.part(file, KIND) != SOFT && !things.isAble(user, file, false)) {
        return false;
      }
      for (int name = 1; name <= NAMES && depth < FILES; name++) {
        int next = things.named(file, name);
        if (next >= 0 && !isReadableFrom(user, next, depth + 1)) {
          return false;
        }
      }
      return true;
    }

    /** Whether the USER is ABLE to WRITE each DIRECTORY in it that has NAMES, and itself, if it has some. */
    boolean isRemovable(int user, int file) {
      return isRemovableFrom(user, file, 0);
    }

    private boolean isRemovableFrom(int user, int file, int depth) {
      if (things.countNames(file) > 0 && !things.isAble(user, file, true)) {
        return false;
      }
      for (int name = 1; name <= NAMES && depth < FILES; name++) {
        int next = things.named(file, name);
        if (next >= 0 && !isRemovableFrom(user, next, depth + 1)) {
          return false;
        }
      }
      return true;
    }

    /** Copies a FILE into a NAME; there are FILES enough for it, as the caller has counted. */
    void copyInto(int file, int directory, int name, int owner, int time) {
      copyFrom(file, directory, name, owner, time, 0);
    }

    private void copyFrom(int file, int directory, int name, int owner, int time, int depth) {
      int copy = things.makeNew(things.part(file, KIND), owner, time);
      if (copy < 0 || depth > FILES) {
        return;
      }
      things.putPart(copy, RIGHTS, things.part(file, RIGHTS));
      things.putPart(copy, SIZE, things.part(file, SIZE));
      things.sharePlaces(file, copy);
      things.giveName(directory, name, copy, time);
      for (int inner = 1; inner <= NAMES; inner++) {
        int next = things.named(file, inner);
        if (next >= 0) {
          copyFrom(next, copy, inner, owner, time, depth + 1);
        }
      }
    }

    /** How many NAMES: those in it, and its own. */
    int removeFrom(int directory, int name, int time) {
      return removeAll(directory, name, time, 0);
    }

    private int removeAll(int directory, int name, int time, int depth) {
      int file = things.named(directory, name);
      int many = 1;
      for (int inner = 1; inner <= NAMES && depth < FILES; inner++) {
        many += things.named(file, inner) < 0 ? 0 : removeAll(file, inner, time, depth + 1);
      }
      things.leadName(directory, name, NONE, time);
      loseLink(file);
      return many;
    }

    boolean isAlike(int one, int other) {
      return isAlikeFrom(one, other, 0);
    }

    private boolean isAlikeFrom(int one, int other, int depth) {
      int kind = things.part(one, KIND);
      if (kind != things.part(other, KIND) || things.part(one, SIZE) != things.part(other, SIZE)) {
        return false;
      }
      if (kind == DIRECTORY) {
        return depth < FILES && isAlikeInside(one, other, depth);
      }
      for (int i = 0; i < MOST_BYTES; i++) {
        if (things.byteIn(MEMORY, one, i) != things.byteIn(MEMORY, other, i)) {
          return false;
        }
      }
      return true;
    }

    private boolean isAlikeInside(int one, int other, int depth) {
      for (int name = 1; name <= NAMES; name++) {
        int first = things.named(one, name);
        int second = things.named(other, name);
        if (first < 0 != second < 0 || first >= 0 && !isAlikeFrom(first, second, depth + 1)) {
          return false;
        }
      }
      return true;
    }
  }

  /** Looks over all THINGS: WAYS, and whether all is SOUND. */
  private static final class Inspector {
    private final Things things;
    private final Row tally = new Row(BLOCKS);

    Inspector(Things things) {
      this.things = things;
    }

    /** The NAME by which the WAY goes: the DIRECTORY times 8, and the NAME; NONE without any. */
    private int leaderOf(int file) {
      // A DIRECTORY has its NAME in one place alone: the search need not begin ahead of that.
      int first = things.isDirectory(file) ? things.part(file, PARENT) : 0;
      for (int directory = first; directory < FILES; directory++) {
        for (int name = 1; name <= NAMES; name++) {
          if (things.named(directory, name) == file) {
            return directory * 8 + name;
          }
        }
      }
      return NONE;
    }

    void putWay(StringBuilder text, int file) {
      putWayFrom(text, file, 0);
    }

    private void putWayFrom(StringBuilder text, int file, int depth) {
      int leader = file == ROOT ? NONE : leaderOf(file);
      if (file == ROOT) {
        text.append('/');
      } else if (leader < 0 || depth > FILES) {
        text.append('?').append(file);
      } else {
        int directory = leader >> 3;
        putWayFrom(text, directory, depth + 1);
        if (directory != ROOT) {
          text.append('/');
        }
        text.append(letter(leader & 7));
      }
    }

    /** The FILE with the smallest number that has that BLOCK, or NONE. */
    int holderOf(int block) {
      for (int file = 0; file < FILES; file++) {
        for (int place = 0; place < PLACES; place++) {
          if (things.blockAt(file, place) == block) {
            return file;
          }
        }
      }
      return NONE;
    }

    boolean isAllSound(Things mended) {
      return isCounted() && isLinked() && isUsed() && isEmptyBehind() && things.isSameAs(mended);
    }

    private boolean isCounted() {
      tally.clearAll();
      for (int i = 0; i < SETS * FILES * PLACES; i++) {
        int file = i / PLACES % FILES;
        tally.add(things.blockIn(i / PLACES / FILES, file, i % PLACES), 1);
      }
      for (int block = 0; block < BLOCKS; block++) {
        if (tally.at(block) != things.blockPart(block, COUNT)) {
          return false;
        }
      }
      return true;
    }

    private boolean isLinked() {
      tally.clearAll();
      tally.put(ROOT, 1);
      for (int i = 0; i < FILES * NAMES; i++) {
        tally.add(things.named(i / NAMES, i % NAMES + 1), 1);
      }
      for (int file = 0; file < FILES; file++) {
        if (tally.at(file) != things.part(file, LINKS)) {
          return false;
        }
        if (things.isDirectory(file) && (tally.at(file) != 1 || !isFromRoot(file))) {
          return false;
        }
      }
      return true;
    }

    private boolean isFromRoot(int directory) {
      int here = directory;
      for (int i = 0; i < FILES && here != ROOT; i++) {
        int leader = leaderOf(here);
        here = leader < 0 ? NONE : leader >> 3;
      }
      return here == ROOT;
    }

    private boolean isUsed() {
      int all = things.countFree();
      for (int user = 0; user < USERS; user++) {
        all += things.countUsed(user);
      }
      return all == BLOCKS;
    }

    private boolean isEmptyBehind() {
      for (int i = 0; i < SETS * FILES; i++) {
        int set = i / FILES;
        int file = i % FILES;
        boolean isData = things.partIn(set, file, KIND) == DATA;
        for (int at = things.partIn(set, file, SIZE); isData && at < MOST_BYTES; at++) {
          if (things.byteIn(set, file, at) != 0) {
            return false;
          }
        }
      }
      return true;
    }
  }

  private final Things things = new Things();
  // MEMORY as MENDING would leave it: as it was behind the last call that happened.
  private final Things safe = new Things();
  private final Row changed = new Row(THINGS);
  private final Paths paths = new Paths(things);
  private final Handles handles = new Handles();
  private final Trees trees = new Trees(things, handles);
  private final Inspector inspector = new Inspector(things);
  private final Journal journal = new Journal();
  private final Cache cache = new Cache();
  private final Watcher watcher = new Watcher();
  private final Faults faults = new Faults();
  // One for all calls: what each call would make of its own is never given back.
  private final StringBuilder text = new StringBuilder();
  private int worker = 0;
  private int work = ROOT;
  private int clock = 0;
  private int refused = 0;

  public Memoryfiles() {
  }

  private static char letter(int name) {
    return (char) ('a' + name - 1);
  }

  private static void needArgument(boolean isGood) {
    if (!isGood) {
      throw new IllegalArgumentException("an argument is outside what the document allows");
    }
  }

  private static void needIndex(boolean isGood) {
    if (!isGood) {
      throw new IndexOutOfBoundsException("there is none with that number");
    }
  }

  private static boolean isUser(int user) {
    return user >= 0 && user < USERS;
  }

  private String inText(int number) {
    text.setLength(0);
    text.append(number);
    return text.toString();
  }

  private int goalOf(int path, boolean isFollowed) {
    return paths.goal(MEMORY, worker, work, path, isFollowed);
  }

  private int directoryAt(int path) {
    int file = paths.goal(MEMORY, worker, work, path, true);
    return file < 0 || things.isDirectory(file) ? file : FLAT;
  }

  private int dataAt(int path) {
    int file = paths.goal(MEMORY, worker, work, path, true);
    return file >= 0 && things.isDirectory(file) ? TREE : file;
  }

  /** Ends a call marked * that has changed THINGS: its answer, or DOWN. */
  private int settle(int answer) {
    int many = things.markChanged(safe, changed);
    if (many == 0) {
      return answer;
    }
    if (!journal.hasRoom(many)) {
      journal.putAllBack();
    }
    if (!journal.isDown && journal.record(changed)) {
      takeOver();
    }
    return aliveOr(answer);
  }

  private void takeOver() {
    watcher.note(safe, things, changed);
    faults.endOfGone(things);
    if (!things.isThere(work)) {
      work = ROOT;
    }
    things.forgetFreed();
    safe.takeAll(things);
  }

  /** The answer, or DOWN behind a CRASH, with which all but DISK and JOURNAL is lost. */
  private int aliveOr(int answer) {
    if (!journal.isDown) {
      return answer;
    }
    handles.endAll();
    cache.empty();
    watcher.begin(NONE);
    return DOWN;
  }

  /** Ends a call that came to nothing behind some changes. */
  private int undo(int answer) {
    things.takeAll(safe);
    return answer;
  }

  // the session

  public int be(int user) throws IllegalArgumentException {
    if (journal.isDown) {
      return DOWN;
    }
    needArgument(isUser(user));
    int before = worker;
    worker = user;
    return before;
  }

  public int tick(int time) throws IllegalArgumentException, IllegalStateException {
    if (journal.isDown) {
      return DOWN;
    }
    needArgument(time >= 0 && time <= 1000);
    if (clock + time > MOST_CLOCK) {
      throw new IllegalStateException("the CLOCK would be above 1000000");
    }
    clock += time;
    return clock;
  }

  public int go(int path) throws IllegalArgumentException {
    if (journal.isDown) {
      return DOWN;
    }
    needArgument(Paths.isPath(path));
    int directory = directoryAt(path);
    if (directory >= 0) {
      work = directory;
    }
    return directory;
  }

  public int watch(int path) throws IllegalArgumentException {
    if (journal.isDown) {
      return DOWN;
    }
    needArgument(Paths.isPath(path));
    int directory = directoryAt(path);
    if (directory < 0) {
      return directory;
    }
    if (!things.isAble(worker, directory, false)) {
      return SHUT;
    }
    watcher.begin(directory);
    return directory;
  }

  public String heard() {
    return journal.isDown ? inText(DOWN) : watcher.tellAll();
  }

  // names

  public int makeDirectory(int path) throws IllegalArgumentException {
    if (journal.isDown) {
      return DOWN;
    }
    needArgument(Paths.isPlace(path));
    return makeOne(path, DIRECTORY, 0);
  }

  public int makeFile(int path) throws IllegalArgumentException {
    if (journal.isDown) {
      return DOWN;
    }
    needArgument(Paths.isPlace(path));
    return makeOne(path, DATA, 0);
  }

  public int makeSoft(int path, int to) throws IllegalArgumentException {
    if (journal.isDown) {
      return DOWN;
    }
    needArgument(Paths.isPlace(path) && Paths.isPath(to));
    return makeOne(path, SOFT, to);
  }

  private int makeOne(int path, int kind, int size) {
    int directory = paths.directoryOf(worker, work, path);
    if (directory < 0) {
      return directory;
    }
    int name = Paths.lastStep(path);
    if (things.named(directory, name) >= 0) {
      return THERE;
    }
    int file = things.makeNew(kind, worker, clock);
    if (file < 0) {
      return FULL;
    }
    things.putPart(file, SIZE, size);
    things.giveName(directory, name, file, clock);
    return settle(file);
  }

  public int link(int from, int to) throws IllegalArgumentException {
    if (journal.isDown) {
      return DOWN;
    }
    needArgument(Paths.isPath(from) && Paths.isPlace(to));
    int file = goalOf(from, false);
    if (file < 0) {
      return file;
    }
    if (things.isDirectory(file)) {
      return TREE;
    }
    int directory = paths.directoryOf(worker, work, to);
    if (directory < 0) {
      return directory;
    }
    if (things.named(directory, Paths.lastStep(to)) >= 0) {
      return THERE;
    }
    things.giveName(directory, Paths.lastStep(to), file, clock);
    return settle(things.part(file, LINKS));
  }

  public int unlink(int path) throws IllegalArgumentException {
    if (journal.isDown) {
      return DOWN;
    }
    needArgument(Paths.isPlace(path));
    int directory = paths.directoryOf(worker, work, path);
    if (directory < 0) {
      return directory;
    }
    int file = things.named(directory, Paths.lastStep(path));
    if (file < 0) {
      return NO;
    }
    if (things.countNames(file) > 0) {
      return LADEN;
    }
    things.leadName(directory, Paths.lastStep(path), NONE, clock);
    trees.loseLink(file);
    // Of one that is GONE this tells 0, too.
    return settle(things.part(file, LINKS));
  }

  public int move(int from, int to) throws IllegalArgumentException {
    if (journal.isDown) {
      return DOWN;
    }
    needArgument(Paths.isPlace(from) && Paths.isPlace(to));
    int source = paths.directoryOf(worker, work, from);
    if (source < 0) {
      return source;
    }
    int file = things.named(source, Paths.lastStep(from));
    if (file < 0) {
      return NO;
    }
    int target = paths.directoryOf(worker, work, to);
    if (target < 0) {
      return target;
    }
    int loser = things.named(target, Paths.lastStep(to));
    int hindrance = hindranceOf(file, target, loser);
    if (hindrance < 0 || loser == file) {
      return hindrance;
    }
    things.leadName(source, Paths.lastStep(from), NONE, clock);
    things.leadName(target, Paths.lastStep(to), file, clock);
    if (loser >= 0) {
      trees.loseLink(loser);
    }
    return settle(loser >= 0 ? 1 : 0);
  }

  /** What forbids that a FILE is moved into a DIRECTORY, to a NAME that leads to a loser; 0, if nothing. */
  private int hindranceOf(int file, int target, int loser) {
    boolean isTree = things.isDirectory(file);
    if (isTree && things.isAround(file, target)) {
      return WITHIN;
    }
    if (loser < 0 || loser == file) {
      return 0;
    }
    if (isTree && !things.isDirectory(loser)) {
      return FLAT;
    }
    if (isTree && things.countNames(loser) > 0) {
      return LADEN;
    }
    return !isTree && things.isDirectory(loser) ? TREE : 0;
  }

  public int rights(int path, int rights) throws IllegalArgumentException {
    if (journal.isDown) {
      return DOWN;
    }
    needArgument(Paths.isPath(path) && rights >= 0 && rights <= 63);
    int file = goalOf(path, true);
    if (file < 0) {
      return file;
    }
    if (worker != 0 && worker != things.part(file, OWNER)) {
      return SHUT;
    }
    int before = things.part(file, RIGHTS);
    things.putPart(file, RIGHTS, rights);
    return settle(before);
  }

  public int quota(int user, int blocks) throws IllegalArgumentException {
    if (journal.isDown) {
      return DOWN;
    }
    needArgument(isUser(user) && blocks >= 0 && blocks <= BLOCKS);
    if (worker != 0) {
      return SHUT;
    }
    int before = things.quotaOf(user);
    things.putQuota(user, blocks);
    return settle(before);
  }

  public int cut(int path, int size) throws IllegalArgumentException {
    if (journal.isDown) {
      return DOWN;
    }
    needArgument(Paths.isPath(path) && size >= 0 && size <= MOST_BYTES);
    int file = dataAt(path);
    if (file < 0) {
      return file;
    }
    if (!things.isAble(worker, file, true)) {
      return SHUT;
    }
    int before = things.part(file, SIZE);
    if (before == size) {
      return before;
    }
    if (!cutBytes(file, size)) {
      return undo(FULL);
    }
    things.putPart(file, SIZE, size);
    things.putPart(file, TIME, clock);
    return settle(before);
  }

  /** Whether all BYTES behind the size are 0 then; false, if a new BLOCK does not fit. */
  private boolean cutBytes(int file, int size) {
    int behind = (size + BLOCK_BYTES - 1) / BLOCK_BYTES;
    for (int place = behind; place < PLACES; place++) {
      things.dropPlace(file, place);
    }
    boolean isLeft = false;
    for (int i = size; i < behind * BLOCK_BYTES; i++) {
      isLeft |= things.byteIn(MEMORY, file, i) != 0;
    }
    if (!isLeft) {
      return true;
    }
    if (!things.ownBytes(file, size, behind * BLOCK_BYTES)) {
      return false;
    }
    for (int i = size; i < behind * BLOCK_BYTES; i++) {
      things.putByte(file, i, 0);
    }
    return true;
  }

  // handles and locks

  public int open(int path, int way) throws IllegalArgumentException {
    if (journal.isDown) {
      return DOWN;
    }
    needArgument(Paths.isPath(path) && way >= 0 && way <= 3);
    int file = dataAt(path);
    if (file < 0) {
      return file;
    }
    boolean isRead = way == 0 || way == 2;
    if (isRead && !things.isAble(worker, file, false) || way > 0 && !things.isAble(worker, file, true)) {
      return SHUT;
    }
    int handle = handles.begin(file, way);
    return handle < 0 ? FULL : handle;
  }

  public int close(int handle) throws IndexOutOfBoundsException {
    if (journal.isDown) {
      return DOWN;
    }
    needIndex(handles.isOpen(handle));
    int file = handles.fileOf(handle);
    handles.end(handle);
    return settle(trees.endIfLost(file) ? 1 : 0);
  }

  public int seek(int handle, int place) throws IndexOutOfBoundsException, IllegalArgumentException {
    if (journal.isDown) {
      return DOWN;
    }
    needIndex(handles.isOpen(handle));
    needArgument(place >= 0 && place <= MOST_BYTES);
    int before = handles.spotOf(handle);
    handles.putSpot(handle, place);
    return before;
  }

  public String read(int handle, int many) throws IndexOutOfBoundsException, IllegalArgumentException {
    if (journal.isDown) {
      return inText(DOWN);
    }
    needIndex(handles.isOpen(handle));
    needArgument(many >= 1 && many <= 20);
    int way = handles.wayOfUse(handle);
    if (way == 1 || way == 3) {
      return inText(SHUT);
    }
    int from = handles.spotOf(handle);
    if (handles.isHeld(handle, from, from + many, false)) {
      return inText(HELD);
    }
    int file = handles.fileOf(handle);
    int to = Math.min(from + many, things.part(file, SIZE));
    text.setLength(0);
    for (int i = from; i < to; i++) {
      text.append(things.byteIn(MEMORY, file, i));
    }
    touchBlocks(file, from, to);
    handles.putSpot(handle, Math.max(from, to));
    return text.toString();
  }

  private void touchBlocks(int file, int from, int to) {
    for (int place = from / BLOCK_BYTES; place < PLACES && place * BLOCK_BYTES < to; place++) {
      int block = things.blockAt(file, place);
      if (block >= 0 && from < to) {
        cache.touch(block);
      }
    }
  }

  public int write(int handle, int digits, int many) throws IndexOutOfBoundsException, IllegalArgumentException {
    if (journal.isDown) {
      return DOWN;
    }
    needIndex(handles.isOpen(handle));
    needArgument(digits >= 0 && many >= 1 && many <= 9);
    int way = handles.wayOfUse(handle);
    if (way == 0) {
      return SHUT;
    }
    int file = handles.fileOf(handle);
    int size = things.part(file, SIZE);
    int from = way == 3 ? size : handles.spotOf(handle);
    int to = from + many;
    if (to > MOST_BYTES) {
      return FULL;
    }
    if (handles.isHeld(handle, from, to, true)) {
      return HELD;
    }
    if (!things.ownBytes(file, from, to)) {
      return undo(FULL);
    }
    int rest = digits;
    for (int i = to - 1; i >= from; i--) {
      things.putByte(file, i, rest % 10);
      rest /= 10;
    }
    things.putPart(file, SIZE, Math.max(size, to));
    things.putPart(file, TIME, clock);
    handles.putSpot(handle, to);
    return settle(to);
  }

  public int lock(int handle, int from, int to, boolean isAlone)
      throws IndexOutOfBoundsException, IllegalArgumentException {
    if (journal.isDown) {
      return DOWN;
    }
    needIndex(handles.isOpen(handle));
    needArgument(from >= 0 && from < MOST_BYTES && to > from && to <= MOST_BYTES);
    if (handles.isHeld(handle, from, to, isAlone)) {
      handles.startWaiting(handle, from, to, isAlone);
      return HELD;
    }
    if (handles.countLocks(handle) >= HANDLE_LOCKS) {
      return FULL;
    }
    handles.addLock(handle, from, to, isAlone);
    handles.stopWaiting(handle);
    return handles.countLocks(handle);
  }

  public int unlock(int handle) throws IndexOutOfBoundsException {
    if (journal.isDown) {
      return DOWN;
    }
    needIndex(handles.isOpen(handle));
    int before = handles.countLocks(handle);
    handles.dropLocks(handle);
    return before;
  }

  // the journal

  public int crash(int writes) throws IllegalArgumentException {
    if (journal.isDown) {
      return DOWN;
    }
    needArgument(writes >= 0 && writes <= 500);
    journal.tellCrash(writes);
    return aliveOr(0);
  }

  public int mend() throws IllegalStateException {
    if (!journal.isDown) {
      throw new IllegalStateException("the machine is not DOWN");
    }
    int calls = journal.calls;
    things.takeAll(safe);
    faults.endAll();
    worker = 0;
    work = ROOT;
    journal.riseAgain();
    return calls;
  }

  public int back(int nth) throws IndexOutOfBoundsException {
    if (journal.isDown) {
      return DOWN;
    }
    needIndex(nth >= 0 && nth < journal.countDirty());
    journal.putBack(nth);
    return aliveOr(journal.countDirty());
  }

  public int flush() {
    if (journal.isDown) {
      return DOWN;
    }
    int before = journal.records;
    journal.putAllBack();
    return aliveOr(before);
  }

  // slots and trees

  public int keep(int slot) throws IndexOutOfBoundsException {
    if (journal.isDown) {
      return DOWN;
    }
    needIndex(slot >= 0 && slot < SLOTS);
    if (worker != 0) {
      return SHUT;
    }
    things.keepSet(slot + 1);
    return settle(things.countFiles(MEMORY));
  }

  public int drop(int slot) throws IndexOutOfBoundsException {
    if (journal.isDown) {
      return DOWN;
    }
    needIndex(slot >= 0 && slot < SLOTS);
    if (worker != 0) {
      return SHUT;
    }
    int before = things.countFree();
    things.dropSet(slot + 1);
    return settle(things.countFree() - before);
  }

  public int slotByte(int slot, int path, int place) throws IndexOutOfBoundsException, IllegalArgumentException {
    if (journal.isDown) {
      return DOWN;
    }
    needIndex(slot >= 0 && slot < SLOTS);
    needArgument(Paths.isPath(path) && place >= 0 && place < MOST_BYTES);
    int set = slot + 1;
    if (things.countFiles(set) == 0) {
      return NO;
    }
    int file = paths.goal(set, worker, ROOT, path, true);
    if (file < 0) {
      return file;
    }
    if (things.partIn(set, file, KIND) == DIRECTORY) {
      return TREE;
    }
    return place < things.partIn(set, file, SIZE) ? things.byteIn(set, file, place) : NONE;
  }

  public int copyTree(int from, int to) throws IllegalArgumentException {
    if (journal.isDown) {
      return DOWN;
    }
    needArgument(Paths.isPath(from) && Paths.isPlace(to));
    int file = goalOf(from, false);
    if (file < 0) {
      return file;
    }
    int directory = paths.directoryOf(worker, work, to);
    if (directory < 0) {
      return directory;
    }
    int name = Paths.lastStep(to);
    if (things.named(directory, name) >= 0) {
      return THERE;
    }
    if (things.isDirectory(file) && things.isAround(file, directory)) {
      return WITHIN;
    }
    if (!trees.isReadable(worker, file)) {
      return SHUT;
    }
    int many = trees.countCopies(file);
    if (things.countFiles(MEMORY) + many > FILES) {
      return FULL;
    }
    trees.copyInto(file, directory, name, worker, clock);
    return settle(many);
  }

  public int removeTree(int path) throws IllegalArgumentException {
    if (journal.isDown) {
      return DOWN;
    }
    needArgument(Paths.isPlace(path));
    int directory = paths.directoryOf(worker, work, path);
    if (directory < 0) {
      return directory;
    }
    int file = things.named(directory, Paths.lastStep(path));
    if (file < 0) {
      return NO;
    }
    if (!trees.isRemovable(worker, file)) {
      return SHUT;
    }
    return settle(trees.removeFrom(directory, Paths.lastStep(path), clock));
  }

  public int compare(int one, int other) throws IllegalArgumentException {
    if (journal.isDown) {
      return DOWN;
    }
    needArgument(Paths.isPath(one) && Paths.isPath(other));
    int first = goalOf(one, false);
    if (first < 0) {
      return first;
    }
    int second = goalOf(other, false);
    if (second < 0) {
      return second;
    }
    return trees.isAlike(first, second) ? 1 : 0;
  }

  // lost ones and faults

  public int adopt(int file, int path) throws IndexOutOfBoundsException, IllegalArgumentException {
    if (journal.isDown) {
      return DOWN;
    }
    needIndex(trees.isLost(file));
    needArgument(Paths.isPlace(path));
    int directory = paths.directoryOf(worker, work, path);
    if (directory < 0) {
      return directory;
    }
    if (things.named(directory, Paths.lastStep(path)) >= 0) {
      return THERE;
    }
    things.giveName(directory, Paths.lastStep(path), file, clock);
    return settle(file);
  }

  public int purge() {
    if (journal.isDown) {
      return DOWN;
    }
    return settle(trees.endLost());
  }

  public int harm(boolean isBlock, int number) throws IndexOutOfBoundsException {
    if (journal.isDown) {
      return DOWN;
    }
    needIndex(isBlock ? !things.isFree(number) : things.isThere(number));
    faults.add(isBlock, number);
    return isBlock ? toldOfBlock(number, 0) : toldOfFile(number, 4);
  }

  public int repair() {
    if (journal.isDown) {
      return DOWN;
    }
    int many = faults.count();
    faults.endAll();
    return many;
  }

  public String check() {
    if (journal.isDown) {
      return inText(DOWN);
    }
    tellFaults();
    return text.toString();
  }

  private void tellFaults() {
    text.setLength(0);
    for (int file = 0; file < FILES; file++) {
      if (faults.ofFiles(file) > 0) {
        startWord();
        text.append('L');
        inspector.putWay(text, file);
      }
    }
    for (int block = 0; block < BLOCKS; block++) {
      if (faults.ofBlocks(block) > 0) {
        startWord();
        text.append('B').append(block).append(':');
        int holder = inspector.holderOf(block);
        if (holder < 0) {
          text.append('-');
        } else {
          inspector.putWay(text, holder);
        }
      }
    }
  }

  private void startWord() {
    if (text.length() > 0) {
      text.append(' ');
    }
  }

  // what is asked

  public int find(int path, boolean isFollowed) throws IllegalArgumentException {
    if (journal.isDown) {
      return DOWN;
    }
    needArgument(Paths.isPath(path));
    return goalOf(path, isFollowed);
  }

  public String list(int path, int from) throws IllegalArgumentException {
    if (journal.isDown) {
      return inText(DOWN);
    }
    needArgument(Paths.isPath(path) && from >= 1 && from <= NAMES);
    int directory = directoryAt(path);
    if (directory < 0) {
      return inText(directory);
    }
    if (!things.isAble(worker, directory, false)) {
      return inText(SHUT);
    }
    text.setLength(0);
    for (int name = from; name <= NAMES; name++) {
      if (things.named(directory, name) >= 0) {
        text.append(letter(name));
      }
    }
    return text.toString();
  }

  public int ofFile(int file, int what) throws IndexOutOfBoundsException, IllegalArgumentException {
    if (journal.isDown) {
      return DOWN;
    }
    needIndex(things.isThere(file));
    needArgument(what >= 0 && what <= 8);
    return toldOfFile(file, what);
  }

  private int toldOfFile(int file, int what) {
    switch (what) {
      case 0:
        return things.part(file, KIND) - 1;
      case 1:
        return things.part(file, OWNER);
      case 2:
        return things.part(file, RIGHTS);
      case 3:
        return things.part(file, TIME);
      case 4:
        return things.part(file, LINKS) + faults.ofFiles(file);
      case 5:
        return things.isDirectory(file) ? things.countNames(file) : things.part(file, SIZE);
      case 6:
        return things.countBlocks(file);
      case 7:
        return handles.countOn(file);
      default:
        return trees.isLost(file) ? 1 : 0;
    }
  }

  public String wayOf(int file) throws IndexOutOfBoundsException {
    if (journal.isDown) {
      return inText(DOWN);
    }
    needIndex(things.isThere(file));
    text.setLength(0);
    inspector.putWay(text, file);
    return text.toString();
  }

  public int ofBlock(int block, int what) throws IndexOutOfBoundsException, IllegalArgumentException {
    if (journal.isDown) {
      return DOWN;
    }
    needIndex(block >= 0 && block < BLOCKS);
    needArgument(what >= 0 && what <= 3);
    return toldOfBlock(block, what);
  }

  private int toldOfBlock(int block, int what) {
    switch (what) {
      case 0:
        return things.blockPart(block, COUNT) + faults.ofBlocks(block);
      case 1:
        return things.isFree(block) ? NONE : things.blockPart(block, USER);
      case 2:
        return things.sumBytes(block);
      default:
        return cache.has(block) ? 1 : 0;
    }
  }

  public int ofUser(int user, boolean isQuota) throws IllegalArgumentException {
    if (journal.isDown) {
      return DOWN;
    }
    needArgument(isUser(user));
    return isQuota ? things.quotaOf(user) : things.countUsed(user);
  }

  public int ofHandle(int handle, int what) throws IndexOutOfBoundsException, IllegalArgumentException {
    if (journal.isDown) {
      return DOWN;
    }
    needIndex(handle >= 0 && handle < HANDLES);
    needArgument(what >= 0 && what <= 5);
    return toldOfHandle(handle, what);
  }

  private int toldOfHandle(int handle, int what) {
    if (!handles.isOpen(handle)) {
      return NONE;
    }
    switch (what) {
      case 0:
        return handles.fileOf(handle);
      case 1:
        return handles.wayOfUse(handle);
      case 2:
        return handles.spotOf(handle);
      case 3:
        return handles.countLocks(handle);
      case 4:
        return handles.isWaiting(handle) ? 1 : 0;
      default:
        return handles.isRinged(handle) ? 1 : 0;
    }
  }

  public int house(int what) throws IllegalArgumentException {
    needArgument(what >= 0 && what <= 17);
    return toldOfHouse(what);
  }

  private int toldOfHouse(int what) {
    switch (what) {
      case 2:
        return clock;
      case 7:
        return journal.records;
      case 10:
        return journal.isDown ? 1 : 0;
      case 11:
        return journal.writes;
      case 12:
        return cache.hits;
      case 13:
        return cache.misses;
      case 17:
        return refused;
      default:
        return journal.isDown ? toldOfRuin(what) : toldOfLife(what);
    }
  }

  private static int toldOfRuin(int what) {
    return what == 3 || what == 9 ? NONE : 0;
  }

  private int toldOfLife(int what) {
    switch (what) {
      case 0:
        return worker;
      case 1:
        return work;
      case 3:
        return watcher.watched;
      case 4:
        return things.countFiles(MEMORY);
      case 5:
        return things.countFree();
      case 6:
        return handles.countOpen();
      case 8:
        return journal.countDirty();
      case 9:
        return journal.fuse;
      case 14:
        return things.countFiles(1);
      case 15:
        return things.countFiles(2);
      default:
        return trees.countLost();
    }
  }

  public int knock() {
    refused++;
    return refused;
  }

  public boolean isSound() {
    return journal.isDown || inspector.isAllSound(safe);
  }

  public long digest() {
    long d = 5900;
    for (int what = 0; what <= 17; what++) {
      d = d * 31 + toldOfHouse(what);
    }
    if (journal.isDown) {
      return d;
    }
    d = digestOfFiles(d);
    d = digestOfBlocks(d);
    for (int user = 0; user < USERS; user++) {
      d = d * 31 + things.quotaOf(user);
    }
    for (int handle = 0; handle < HANDLES; handle++) {
      for (int what = 0; what <= 5; what++) {
        d = d * 31 + toldOfHandle(handle, what);
      }
    }
    tellFaults();
    d = d * 31 + text.length();
    return d * 31 + (inspector.isAllSound(safe) ? 1 : 0);
  }

  private long digestOfFiles(long start) {
    long d = start;
    for (int file = 0; file < FILES; file++) {
      if (things.isThere(file)) {
        d = d * 31 + file;
        for (int what = 0; what <= 8; what++) {
          d = d * 31 + toldOfFile(file, what);
        }
        text.setLength(0);
        inspector.putWay(text, file);
        d = d * 31 + text.length();
        int size = things.part(file, KIND) == DATA ? things.part(file, SIZE) : 0;
        for (int i = 0; i < size; i++) {
          d = d * 31 + things.byteIn(MEMORY, file, i);
        }
      }
    }
    return d;
  }

  private long digestOfBlocks(long start) {
    long d = start;
    for (int block = 0; block < BLOCKS; block++) {
      if (!things.isFree(block)) {
        d = d * 31 + block;
        for (int what = 0; what <= 3; what++) {
          d = d * 31 + toldOfBlock(block, what);
        }
      }
    }
    return d;
  }
}
