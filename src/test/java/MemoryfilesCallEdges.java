import java.util.function.Supplier;

/**
 * The document's promises, by number: what each call allows and what it throws at, the last value that is allowed
 * and the first that is not, and what goes ahead of what. PATHS are written in the radix 8.
 */
public final class MemoryfilesCallEdges {
  private static final int NONE = -1;
  private static final int NO = -2;
  private static final int FLAT = -3;
  private static final int THERE = -4;
  private static final int SHUT = -5;
  private static final int DOWN = -6;
  private static final int ROUND = -7;
  private static final int FULL = -8;
  private static final int LADEN = -9;
  private static final int TREE = -10;
  private static final int WITHIN = -11;
  private static final int HELD = -12;

  private static final Class<?> ARGUMENT = IllegalArgumentException.class;
  private static final Class<?> INDEX = IndexOutOfBoundsException.class;
  private static final Class<?> STATE = IllegalStateException.class;

  private static int tests = 0;
  private static int wrong = 0;
  private static String sentence = "";

  private static void edge(String told, Runnable test) {
    tests++;
    sentence = told;
    try {
      test.run();
    } catch (RuntimeException e) {
      tell(e.toString(), "no exception", e.getStackTrace());
    }
  }

  private static void due(Object got, Object want) {
    if (!want.equals(got)) {
      tell(String.valueOf(got), String.valueOf(want), Thread.currentThread().getStackTrace());
    }
  }

  private static void tell(String got, String want, StackTraceElement[] way) {
    wrong++;
    StringBuilder lines = new StringBuilder();
    for (StackTraceElement step : way) {
      if (step.getClassName().equals("MemoryfilesCallEdges") && !step.getMethodName().equals("main")) {
        lines.append(' ').append(step.getLineNumber());
      }
    }
    System.out.println("\"" + sentence + "\", lines" + lines + ": answered " + got + ", due is " + want);
  }

  /** What the call answers, or the exception's name. */
  private static Object told(Supplier<Object> call) {
    try {
      return call.get();
    } catch (RuntimeException e) {
      return e.getClass();
    }
  }

  /** The call answers so (a number, a text, or an exception), and changes nothing. */
  private static void refused(Memoryfiles x, Object want, Supplier<Object> call) {
    long before = x.digest();
    due(told(call), want);
    due(x.digest(), before);
  }

  private static Memoryfiles made() {
    return new Memoryfiles();
  }

  /** Makes FILES below the NAME e of ROOT, till there are so many: e, five in it, five in each of those. */
  private static void fillFiles(Memoryfiles x, int many) {
    for (int home : new int[] {-05, -051, -052, -053, -054, -055}) {
      if (x.house(4) < many) {
        x.makeDirectory(home);
      }
    }
    for (int i = 0; i < 25 && x.house(4) < many; i++) {
      x.makeFile(-(0500 + (i / 5 + 1) * 8 + i % 5 + 1));
    }
  }

  /** Writes BYTES of 1 from one place to below another one, eight at once. */
  private static int put(Memoryfiles x, int path, int from, int to) {
    int h = x.open(path, 1);
    x.seek(h, from);
    int answer = 0;
    for (int at = from; at < to; at += 8) {
      answer = x.write(h, 11111111, Math.min(to - at, 8));
    }
    x.close(h);
    return answer;
  }

  /** BYTES of a FILE, from one place on. */
  private static String get(Memoryfiles x, int path, int from, int many) {
    int h = x.open(path, 0);
    x.seek(h, from);
    String all = x.read(h, many);
    x.close(h);
    return all;
  }

  private static final int[] NO_PATHS = {
    8, -8, 010, 0101, -066066, 16777216, -16777216, 0111111111, Integer.MIN_VALUE, Integer.MAX_VALUE};
  private static final int[] NO_PLACES = {
    0, 6, 7, -6, -7, 016, -017, 8, 0101, 16777215, 16777216, -16777216, 0111111111, Integer.MIN_VALUE};

  private static void newObject() {
    Memoryfiles x = made();
    int[] want = {0, 0, 0, NONE, 1, 64, 0, 0, 0, NONE, 0, 0, 0, 0, 0, 0, 0, 0};
    for (int what = 0; what <= 17; what++) {
      due(x.house(what), want[what]);
    }
    due(x.heard() + x.check() + x.list(0, 1), "");
    due(x.slotByte(0, 0, 0) + x.slotByte(1, 0, 0), 2 * NO);
    Memoryfiles y = made();
    x.makeFile(01);
    x.be(2);
    x.crash(0);
    due(y.house(0) + y.house(10) + y.house(11), 0);
    due(y.list(0, 1), "");
    due(y.digest(), made().digest());
  }

  private static void another() {
    Memoryfiles x = made();
    due(x.be(3), 0);
    refused(x, ARGUMENT, () -> x.be(4));
    refused(x, ARGUMENT, () -> x.be(-1));
    refused(x, ARGUMENT, () -> x.be(Integer.MIN_VALUE));
    refused(x, ARGUMENT, () -> x.be(Integer.MAX_VALUE));
    due(x.be(0), 3);
    due(x.be(0), 0);
  }

  private static void clock() {
    Memoryfiles x = made();
    refused(x, ARGUMENT, () -> x.tick(1001));
    refused(x, ARGUMENT, () -> x.tick(-1));
    refused(x, ARGUMENT, () -> x.tick(Integer.MAX_VALUE));
    refused(x, ARGUMENT, () -> x.tick(Integer.MIN_VALUE));
    refused(x, 0, () -> x.tick(0));
    due(x.tick(1000), 1000);
    due(x.house(11), 0);
  }

  /** It takes more calls than an object is promised for to come so far: none is known that does so sooner. */
  private static void clockMillion() {
    Memoryfiles x = made();
    for (int i = 1; i < 1000; i++) {
      x.tick(1000);
    }
    due(x.tick(1), 999001);
    refused(x, STATE, () -> x.tick(1000));
    due(x.tick(998), 999999);
    refused(x, STATE, () -> x.tick(2));
    due(x.tick(1), 1000000);
    refused(x, STATE, () -> x.tick(1));
    refused(x, ARGUMENT, () -> x.tick(1001));
    due(x.tick(0), 1000000);
    x.makeFile(01);
    due(x.ofFile(1, 3), 1000000);
  }

  private static void goes() {
    Memoryfiles x = made();
    x.makeDirectory(01);
    x.makeFile(02);
    x.makeSoft(03, 02);
    x.makeSoft(04, 044);
    x.makeSoft(05, 01);
    due(x.go(05), 1);
    for (int path : NO_PATHS) {
      refused(x, ARGUMENT, () -> x.go(path));
    }
    refused(x, FLAT, () -> x.go(-02));
    refused(x, FLAT, () -> x.go(-03));
    refused(x, FLAT, () -> x.go(-026));
    refused(x, NO, () -> x.go(01));
    refused(x, ROUND, () -> x.go(-04));
    x.rights(06, 0);
    x.be(1);
    refused(x, SHUT, () -> x.go(07));
    refused(x, 1, () -> x.go(0));
    refused(x, 1, () -> x.go(-01));
    due(x.go(-06), 0);
  }

  private static void watches() {
    Memoryfiles x = made();
    x.makeDirectory(01);
    x.makeFile(02);
    x.makeSoft(03, 01);
    x.makeSoft(04, 044);
    x.rights(01, 61);
    due(x.watch(0), 0);
    x.makeFile(05);
    for (int path : NO_PATHS) {
      refused(x, ARGUMENT, () -> x.watch(path));
    }
    refused(x, FLAT, () -> x.watch(02));
    refused(x, FLAT, () -> x.watch(021));
    refused(x, NO, () -> x.watch(011));
    refused(x, ROUND, () -> x.watch(04));
    x.be(2);
    refused(x, SHUT, () -> x.watch(03));
    refused(x, SHUT, () -> x.watch(016));
    due(x.heard(), "+e");
    x.be(0);
    x.unlink(05);
    due(x.watch(03), 1);
    due(x.heard(), "");
    x.makeFile(05);
    due(x.heard(), "");
    x.makeFile(015);
    due(x.heard(), "+e");
    // What it watches already is watched anew.
    x.unlink(015);
    due(x.watch(01), 1);
    due(x.heard(), "");
    due(x.house(3), 1);
  }

  private static void hears() {
    Memoryfiles x = made();
    due(x.heard(), "");
    x.makeFile(01);
    due(x.heard(), "");
    x.watch(0);
    due(x.heard(), "");
    x.makeFile(02);
    x.makeFile(03);
    due(x.heard(), "+b +c");
    due(x.heard(), "");
    due(x.house(3), 0);
  }

  private static int makes(Memoryfiles x, int kind, int path) {
    return kind == 0 ? x.makeFile(path) : kind == 1 ? x.makeDirectory(path) : x.makeSoft(path, 01);
  }

  private static void makers() {
    for (int i = 0; i <= 2; i++) {
      int kind = i;
      Memoryfiles x = made();
      for (int path : NO_PLACES) {
        refused(x, ARGUMENT, () -> makes(x, kind, path));
      }
      due(makes(x, kind, 01), 1);
      due(x.ofFile(1, 0), kind);
      due(x.ofFile(1, 5), kind == 2 ? 1 : 0);
      refused(x, THERE, () -> makes(x, kind, 01));
      x.makeFile(02);
      x.makeSoft(03, 03);
      fillFiles(x, 30);
      // What is named first goes ahead.
      refused(x, NO, () -> makes(x, kind, 041));
      refused(x, FLAT, () -> makes(x, kind, 021));
      refused(x, ROUND, () -> makes(x, kind, 031));
      refused(x, THERE, () -> makes(x, kind, 02));
      refused(x, THERE, () -> makes(x, kind, 03));
      refused(x, FULL, () -> makes(x, kind, 04));
      x.rights(0, 62);
      x.be(3);
      refused(x, SHUT, () -> makes(x, kind, 02));
      refused(x, SHUT, () -> makes(x, kind, 04));
      refused(x, ARGUMENT, () -> makes(x, kind, 06));
    }
  }

  private static void makesSoft() {
    Memoryfiles x = made();
    for (int path : NO_PATHS) {
      refused(x, ARGUMENT, () -> x.makeSoft(01, path));
    }
    int[] paths = {0, 16777215, -16777215, 06, -07};
    for (int i = 0; i < 5; i++) {
      due(x.makeSoft(i + 1, paths[i]), i + 1);
      due(x.ofFile(i + 1, 5), paths[i]);
    }
    refused(x, ARGUMENT, () -> x.makeSoft(01, 8));
    due(x.find(03, true), 0);
  }

  private static void links() {
    Memoryfiles x = made();
    x.makeFile(01);
    x.makeDirectory(02);
    x.makeSoft(03, 033);
    for (int path : NO_PATHS) {
      refused(x, ARGUMENT, () -> x.link(path, 04));
    }
    for (int path : NO_PLACES) {
      refused(x, ARGUMENT, () -> x.link(01, path));
      refused(x, ARGUMENT, () -> x.link(02, path));
    }
    // from; TREE; to; THERE.
    refused(x, NO, () -> x.link(04, 031));
    refused(x, FLAT, () -> x.link(011, 02));
    refused(x, ROUND, () -> x.link(031, 041));
    refused(x, TREE, () -> x.link(02, 031));
    refused(x, TREE, () -> x.link(0, 041));
    refused(x, TREE, () -> x.link(02, 01));
    refused(x, NO, () -> x.link(01, 041));
    refused(x, FLAT, () -> x.link(01, 011));
    refused(x, ROUND, () -> x.link(01, 031));
    refused(x, THERE, () -> x.link(01, 02));
    refused(x, THERE, () -> x.link(01, 01));
    for (int name = 1; name <= 5; name++) {
      due(x.link(01, 020 + name), name + 1);
    }
    due(x.link(03, 04), 2);
    due(x.ofFile(3, 4), 2);
    x.rights(02, 0);
    x.be(1);
    refused(x, SHUT, () -> x.link(021, 05));
    refused(x, SHUT, () -> x.link(01, 021));
    due(x.link(01, 05), 7);
    due(x.isSound(), true);
  }

  private static void unlinks() {
    Memoryfiles x = made();
    x.makeDirectory(01);
    x.makeSoft(03, 033);
    for (int path : NO_PLACES) {
      refused(x, ARGUMENT, () -> x.unlink(path));
    }
    for (int name = 1; name <= 5; name++) {
      x.makeFile(010 + name);
      refused(x, LADEN, () -> x.unlink(01));
      due(x.unlink(010 + name), 0);
    }
    refused(x, NO, () -> x.unlink(012));
    refused(x, NO, () -> x.unlink(021));
    refused(x, ROUND, () -> x.unlink(031));
    x.makeFile(02);
    refused(x, FLAT, () -> x.unlink(021));
    x.makeFile(012);
    x.link(012, 04);
    x.link(012, 05);
    due(x.unlink(05), 2);
    due(x.unlink(012), 1);
    due(x.unlink(04), 0);
    x.rights(0, 62);
    x.be(2);
    refused(x, SHUT, () -> x.unlink(05));
    refused(x, SHUT, () -> x.unlink(02));
    x.be(0);
    due(x.unlink(03), 0);
    due(x.unlink(01), 0);
    due(x.unlink(02), 0);
    due(x.house(4), 1);
  }

  private static void moves() {
    Memoryfiles x = made();
    x.makeDirectory(01);
    x.makeDirectory(011);
    x.makeFile(0111);
    x.makeFile(02);
    x.makeDirectory(03);
    x.makeSoft(04, 044);
    for (int path : NO_PLACES) {
      refused(x, ARGUMENT, () -> x.move(path, 01));
      refused(x, ARGUMENT, () -> x.move(02, path));
      refused(x, ARGUMENT, () -> x.move(05, path));
    }
    // from as a PLACE; NO; to as a PLACE; WITHIN; FLAT, LADEN, TREE.
    refused(x, NO, () -> x.move(051, 041));
    refused(x, FLAT, () -> x.move(021, 041));
    refused(x, ROUND, () -> x.move(041, 051));
    refused(x, NO, () -> x.move(05, 041));
    refused(x, ROUND, () -> x.move(01, 041));
    refused(x, NO, () -> x.move(01, 051));
    refused(x, FLAT, () -> x.move(01, 021));
    refused(x, WITHIN, () -> x.move(01, 012));
    refused(x, WITHIN, () -> x.move(01, 0112));
    refused(x, WITHIN, () -> x.move(01, 011));
    refused(x, WITHIN, () -> x.move(01, 0111));
    refused(x, FLAT, () -> x.move(03, 02));
    refused(x, FLAT, () -> x.move(03, 04));
    refused(x, LADEN, () -> x.move(03, 01));
    refused(x, LADEN, () -> x.move(03, 011));
    refused(x, TREE, () -> x.move(02, 03));
    refused(x, TREE, () -> x.move(02, 01));
    refused(x, TREE, () -> x.move(04, 03));
    refused(x, 0, () -> x.move(01, 01));
    refused(x, 0, () -> x.move(02, 02));
    // A DIRECTORY upon one that is just around it.
    refused(x, LADEN, () -> x.move(011, 01));
    due(x.move(0111, 02), 1);
    due(x.house(4), 6);
    due(x.move(011, 03), 1);
    due(x.house(4), 5);
    due(x.move(03, 05), 0);
    due(x.move(02, 04), 1);
    due(x.list(0, 1), "ade");
    due(x.isSound(), true);
  }

  private static void movesBetweenNames() {
    Memoryfiles x = made();
    x.makeFile(01);
    x.link(01, 02);
    refused(x, 0, () -> x.move(01, 02));
    due(x.ofFile(1, 4), 2);
    x.makeFile(03);
    x.tick(1);
    due(x.move(03, 02), 1);
    due(x.ofFile(1, 4), 1);
    due(x.ofFile(2, 4), 1);
    due(x.house(4), 3);
    due(x.move(02, 01), 1);
    due(x.house(4), 2);
    due(x.find(01, true), 2);
    x.makeDirectory(04);
    x.rights(04, 62);
    x.be(2);
    refused(x, SHUT, () -> x.move(041, 02));
    refused(x, SHUT, () -> x.move(01, 041));
    refused(x, NO, () -> x.move(02, 041));
  }

  private static void tellsRights() {
    Memoryfiles x = made();
    x.makeSoft(02, 022);
    x.be(2);
    x.makeFile(01);
    for (int path : NO_PATHS) {
      refused(x, ARGUMENT, () -> x.rights(path, 0));
    }
    refused(x, ARGUMENT, () -> x.rights(01, 64));
    refused(x, ARGUMENT, () -> x.rights(01, -1));
    refused(x, NO, () -> x.rights(03, 0));
    refused(x, FLAT, () -> x.rights(016, 0));
    refused(x, ROUND, () -> x.rights(02, 0));
    due(x.rights(01, 63), 58);
    due(x.rights(01, 0), 63);
    due(x.rights(01, 58), 0);
    refused(x, SHUT, () -> x.rights(0, 1));
    x.be(3);
    refused(x, SHUT, () -> x.rights(01, 1));
    refused(x, ARGUMENT, () -> x.rights(01, 64));
    x.be(0);
    due(x.rights(01, 1), 58);
    due(x.rights(0, 0), 63);
    x.be(1);
    refused(x, SHUT, () -> x.rights(01, 1));
  }

  private static void tellsQuota() {
    Memoryfiles x = made();
    refused(x, ARGUMENT, () -> x.quota(4, 0));
    refused(x, ARGUMENT, () -> x.quota(-1, 0));
    refused(x, ARGUMENT, () -> x.quota(0, 65));
    refused(x, ARGUMENT, () -> x.quota(0, -1));
    for (int user = 0; user <= 3; user++) {
      due(x.quota(user, 0), 64);
      due(x.quota(user, 64), 0);
      due(x.quota(user, user), 64);
    }
    for (int user = 0; user <= 3; user++) {
      due(x.ofUser(user, true), user);
    }
    for (int user = 1; user <= 3; user++) {
      x.be(user);
      refused(x, SHUT, () -> x.quota(1, 5));
      refused(x, ARGUMENT, () -> x.quota(1, 65));
    }
  }

  private static void cuts() {
    Memoryfiles x = made();
    x.makeFile(01);
    x.makeDirectory(02);
    x.makeSoft(03, 033);
    put(x, 01, 0, 20);
    for (int path : NO_PATHS) {
      refused(x, ARGUMENT, () -> x.cut(path, 0));
    }
    refused(x, ARGUMENT, () -> x.cut(01, 81));
    refused(x, ARGUMENT, () -> x.cut(01, -1));
    refused(x, NO, () -> x.cut(04, 0));
    refused(x, FLAT, () -> x.cut(016, 0));
    refused(x, ROUND, () -> x.cut(03, 0));
    refused(x, TREE, () -> x.cut(02, 0));
    x.rights(01, 62);
    x.rights(02, 0);
    x.be(2);
    refused(x, TREE, () -> x.cut(02, 0));
    refused(x, SHUT, () -> x.cut(01, 20));
    refused(x, SHUT, () -> x.cut(01, 0));
    x.be(0);
    due(x.cut(01, 80), 20);
    due(x.cut(01, 17), 80);
    due(x.ofFile(1, 6), 3);
    due(x.cut(01, 16), 17);
    due(x.ofFile(1, 6), 2);
    due(x.cut(01, 15), 16);
    due(x.ofFile(1, 6), 2);
    due(x.ofBlock(1, 2), 7);
    due(x.cut(01, 9), 15);
    due(x.ofBlock(1, 2), 1);
    due(x.cut(01, 8), 9);
    due(x.ofFile(1, 6), 1);
    due(x.cut(01, 1), 8);
    due(x.ofBlock(0, 2), 1);
    due(x.cut(01, 0), 1);
    due(x.house(5), 64);
  }

  private static void cutOfShared() {
    Memoryfiles x = made();
    x.makeFile(01);
    put(x, 01, 0, 3);
    x.cut(01, 24);
    x.keep(0);
    x.quota(0, 0);
    // Behind 3 all BYTES are 0 already, behind 8 there is no BLOCK: nothing is WRITTEN but SIZE.
    due(x.cut(01, 20), 24);
    due(x.cut(01, 8), 20);
    due(x.cut(01, 5), 8);
    due(x.cut(01, 3), 5);
    due(x.ofBlock(0, 0), 2);
    refused(x, FULL, () -> x.cut(01, 2));
    // Where all of the BLOCK is let go it is not WRITTEN.
    due(x.cut(01, 0), 3);
    due(x.ofBlock(0, 0), 1);
    due(x.slotByte(0, 01, 2), 1);
    due(x.slotByte(0, 01, 23), 0);
    due(x.slotByte(0, 01, 24), NONE);
  }

  private static void cutLetsGoFirst() {
    Memoryfiles x = made();
    x.makeFile(01);
    put(x, 01, 0, 8);
    x.keep(0);
    put(x, 01, 8, 16);
    x.quota(0, 2);
    x.harm(true, 1);
    due(x.cut(01, 7), 16);
    due(x.ofBlock(1, 2), 7);
    due(x.ofBlock(1, 0), 1);
    due(x.ofBlock(0, 0), 1);
    due(x.check(), "");
    // With QUOTA 1 not even what was let go makes room.
    Memoryfiles y = made();
    y.makeFile(01);
    put(y, 01, 0, 8);
    y.keep(0);
    put(y, 01, 8, 16);
    y.quota(0, 1);
    refused(y, FULL, () -> y.cut(01, 7));
    due(get(y, 01, 0, 20), "1111111111111111");
  }

  private static void opens() {
    Memoryfiles x = made();
    x.makeFile(01);
    x.makeDirectory(02);
    x.makeSoft(03, 033);
    x.makeSoft(04, 01);
    for (int path : NO_PATHS) {
      refused(x, ARGUMENT, () -> x.open(path, 0));
    }
    refused(x, ARGUMENT, () -> x.open(01, -1));
    refused(x, ARGUMENT, () -> x.open(01, 4));
    refused(x, NO, () -> x.open(05, 0));
    refused(x, FLAT, () -> x.open(016, 0));
    refused(x, ROUND, () -> x.open(03, 0));
    refused(x, TREE, () -> x.open(02, 0));
    for (int h = 0; h <= 5; h++) {
      due(x.open(04, 0), h);
    }
    x.rights(01, 1);
    x.rights(02, 0);
    // The PATH; TREE; SHUT; FULL.
    refused(x, FULL, () -> x.open(01, 2));
    x.be(2);
    refused(x, TREE, () -> x.open(02, 0));
    refused(x, SHUT, () -> x.open(01, 0));
    refused(x, FULL, () -> x.open(01, 1));
    refused(x, SHUT, () -> x.open(01, 2));
    refused(x, FULL, () -> x.open(01, 3));
    x.be(0);
    x.rights(01, 2);
    x.be(2);
    refused(x, FULL, () -> x.open(01, 0));
    refused(x, SHUT, () -> x.open(01, 1));
    refused(x, SHUT, () -> x.open(01, 2));
    refused(x, SHUT, () -> x.open(01, 3));
    // A HANDLE that is open stays so, whoever works, and whatever RIGHTS are.
    x.rights(01, 0);
    due(x.read(0, 1), "");
    due(x.close(0), 0);
    refused(x, INDEX, () -> x.close(0));
  }

  /** It is asked who is ABLE to WRITE, not whose it is. */
  private static void cutsByRights() {
    Memoryfiles x = made();
    x.rights(0, 63);
    x.be(1);
    x.makeFile(01);
    x.rights(01, 017);
    refused(x, SHUT, () -> x.cut(01, 0));
    refused(x, SHUT, () -> x.cut(01, 1));
    for (int user : new int[] {2, 3}) {
      x.be(user);
      due(x.cut(01, 8 * user), user == 2 ? 0 : 16);
    }
    x.be(0);
    due(x.cut(01, 3), 24);
    x.be(1);
    x.rights(01, 020);
    due(x.cut(01, 4), 3);
    x.be(2);
    refused(x, SHUT, () -> x.cut(01, 5));
  }

  /** PLACE is 0 for each WAY, whatever the SIZE is. */
  private static void opensAtZero() {
    Memoryfiles x = made();
    x.makeFile(01);
    put(x, 01, 0, 24);
    for (int way = 0; way <= 3; way++) {
      int h = x.open(01, way);
      due(x.ofHandle(h, 1), way);
      due(x.ofHandle(h, 2), 0);
      x.seek(h, 40 + way);
    }
    // The HANDLE of one that is closed begins anew.
    for (int way = 3; way >= 0; way--) {
      x.close(way);
      due(x.open(01, 3), way);
      due(x.ofHandle(way, 2), 0);
    }
  }

  /** RIGHTS are asked as it is opened alone: read() and write() tell SHUT by the WAY, and by nothing else. */
  private static void staysOpen() {
    Memoryfiles x = made();
    x.makeFile(01);
    put(x, 01, 0, 4);
    x.open(01, 2);
    x.open(01, 3);
    x.rights(01, 0);
    x.be(3);
    refused(x, SHUT, () -> x.open(01, 0));
    refused(x, SHUT, () -> x.open(01, 1));
    due(x.read(0, 2), "11");
    due(x.write(0, 22, 2), 4);
    due(x.write(1, 3, 1), 5);
    x.seek(0, 0);
    due(x.read(0, 20), "11223");
    due(x.close(0), 0);
    due(x.close(1), 0);
  }

  private static void closes() {
    Memoryfiles x = made();
    for (int h = -1; h <= 6; h++) {
      int handle = h;
      refused(x, INDEX, () -> x.close(handle));
      refused(x, INDEX, () -> x.unlock(handle));
      refused(x, INDEX, () -> x.read(handle, 1));
      refused(x, INDEX, () -> x.write(handle, 1, 1));
      refused(x, INDEX, () -> x.seek(handle, 1));
      refused(x, INDEX, () -> x.lock(handle, 0, 1, true));
    }
    x.makeFile(01);
    for (int h = 0; h <= 5; h++) {
      x.open(01, 0);
    }
    x.unlink(01);
    for (int h = 5; h >= 1; h--) {
      due(x.close(h), 0);
    }
    due(x.close(0), 1);
    due(x.house(4), 1);
    refused(x, INDEX, () -> x.close(0));
  }

  private static void seeks() {
    Memoryfiles x = made();
    x.makeFile(01);
    x.open(01, 0);
    for (int place : new int[] {80, 0, 1, 79, 40}) {
      due(x.seek(0, place) >= 0, true);
      due(x.ofHandle(0, 2), place);
    }
    due(x.seek(0, 3), 40);
    refused(x, ARGUMENT, () -> x.seek(0, 81));
    refused(x, ARGUMENT, () -> x.seek(0, -1));
    refused(x, ARGUMENT, () -> x.seek(0, Integer.MIN_VALUE));
    refused(x, INDEX, () -> x.seek(1, 0));
  }

  private static void reads() {
    Memoryfiles x = made();
    x.makeFile(01);
    put(x, 01, 0, 80);
    x.open(01, 0);
    refused(x, ARGUMENT, () -> x.read(0, 0));
    refused(x, ARGUMENT, () -> x.read(0, 21));
    refused(x, ARGUMENT, () -> x.read(0, -1));
    refused(x, ARGUMENT, () -> x.read(0, Integer.MAX_VALUE));
    due(x.read(0, 1), "1");
    due(x.read(0, 20), "11111111111111111111");
    due(x.ofHandle(0, 2), 21);
    x.seek(0, 79);
    due(x.read(0, 20), "1");
    due(x.ofHandle(0, 2), 80);
    refused(x, "", () -> x.read(0, 20));
    x.cut(01, 5);
    refused(x, "", () -> x.read(0, 20));
    x.seek(0, 5);
    refused(x, "", () -> x.read(0, 1));
    x.seek(0, 4);
    due(x.read(0, 2), "1");
  }

  private static void readsThatAreHeld() {
    Memoryfiles x = made();
    x.makeFile(01);
    x.makeFile(02);
    put(x, 01, 0, 40);
    x.open(01, 0);
    x.open(01, 2);
    x.open(02, 2);
    x.open(01, 1);
    x.open(01, 3);
    x.lock(1, 10, 12, true);
    x.lock(2, 0, 80, true);
    x.lock(0, 20, 30, true);
    for (int from = 5; from <= 14; from++) {
      for (int many = 1; many <= 10; many++) {
        x.seek(0, from);
        boolean isHeld = from < 12 && from + many > 10;
        String all = "1111111111".substring(0, many);
        if (isHeld && many % 3 == 0) {
          int n = many;
          refused(x, "-12", () -> x.read(0, n));
        } else {
          due(x.read(0, many), isHeld ? "-12" : all);
        }
      }
    }
    // Its own LOCK does not hold it, and SHUT goes ahead.
    x.seek(0, 20);
    due(x.read(0, 10), "1111111111");
    x.seek(3, 10);
    refused(x, "-5", () -> x.read(3, 1));
    refused(x, "-5", () -> x.read(4, 1));
    x.unlock(1);
    x.lock(1, 10, 12, false);
    x.seek(0, 10);
    due(x.read(0, 2), "11");
  }

  private static void readsWhatIsHeldBehindSize() {
    Memoryfiles x = made();
    x.makeFile(01);
    x.open(01, 0);
    x.open(01, 0);
    x.lock(1, 79, 80, true);
    x.seek(0, 60);
    refused(x, "-12", () -> x.read(0, 20));
    refused(x, "", () -> x.read(0, 19));
    x.seek(0, 80);
    refused(x, "", () -> x.read(0, 20));
    x.seek(0, 79);
    refused(x, "-12", () -> x.read(0, 1));
  }

  private static void writes() {
    Memoryfiles x = made();
    x.makeFile(01);
    x.open(01, 2);
    refused(x, ARGUMENT, () -> x.write(0, -1, 1));
    refused(x, ARGUMENT, () -> x.write(0, Integer.MIN_VALUE, 1));
    refused(x, ARGUMENT, () -> x.write(0, 1, 0));
    refused(x, ARGUMENT, () -> x.write(0, 1, 10));
    due(x.write(0, Integer.MAX_VALUE, 9), 9);
    due(x.write(0, Integer.MAX_VALUE, 1), 10);
    due(x.write(0, 0, 9), 19);
    due(x.write(0, 0, 1), 20);
    due(x.write(0, 12, 9), 29);
    due(x.write(0, 999999999, 9), 38);
    x.seek(0, 0);
    due(x.read(0, 20), "14748364770000000000");
    due(x.read(0, 20), "000000012999999999");
    due(x.ofHandle(0, 2), 38);
  }

  private static void writesAtTheEnd() {
    Memoryfiles x = made();
    x.makeFile(01);
    x.open(01, 3);
    x.open(01, 1);
    due(x.write(0, 12, 2), 2);
    x.cut(01, 70);
    due(x.ofHandle(0, 2), 2);
    due(x.write(0, 3, 1), 71);
    x.seek(0, 5);
    due(x.write(0, 123456789, 9), 80);
    x.seek(0, 5);
    refused(x, FULL, () -> x.write(0, 1, 1));
    due(x.ofHandle(0, 2), 5);
    x.cut(01, 72);
    refused(x, FULL, () -> x.write(0, 1, 9));
    due(x.write(0, 1, 8), 80);
    x.cut(01, 1);
    // A LOCK counts where it is WRITTEN, not where the PLACE was.
    x.lock(1, 2, 9, true);
    due(x.write(0, 5, 1), 2);
    refused(x, HELD, () -> x.write(0, 5, 1));
    x.unlock(1);
    x.lock(1, 80 - 1, 80, true);
    x.seek(0, 79);
    due(x.write(0, 5, 1), 3);
  }

  private static void writesInOrder() {
    Memoryfiles x = made();
    x.makeFile(01);
    x.open(01, 0);
    x.open(01, 1);
    x.open(01, 2);
    x.quota(0, 0);
    x.lock(2, 0, 80, false);
    x.seek(0, 80);
    x.seek(1, 80);
    // SHUT; FULL (above 80); HELD; FULL.
    refused(x, SHUT, () -> x.write(0, 1, 1));
    refused(x, FULL, () -> x.write(1, 1, 1));
    x.seek(1, 79);
    refused(x, HELD, () -> x.write(1, 1, 1));
    refused(x, FULL, () -> x.write(1, 1, 2));
    x.seek(1, 0);
    refused(x, HELD, () -> x.write(1, 1, 1));
    refused(x, FULL, () -> x.write(2, 1, 1));
    x.unlock(2);
    refused(x, FULL, () -> x.write(1, 1, 1));
    x.quota(0, 1);
    due(x.write(1, 1, 1), 1);
    for (int from = 0; from <= 7; from++) {
      for (int many = 1; many <= 4; many++) {
        for (int kind = 0; kind <= 1; kind++) {
          x.unlock(2);
          x.lock(2, 3, 5, kind == 1);
          x.seek(1, from);
          boolean isHeld = from < 5 && from + many > 3;
          int want = isHeld ? HELD : from + many > 8 ? FULL : from + many;
          due(x.write(1, 1, many), want);
        }
      }
    }
  }

  private static void locks() {
    Memoryfiles x = made();
    x.makeFile(01);
    x.open(01, 0);
    for (int h = 1; h <= 5; h++) {
      x.open(01, 0);
    }
    refused(x, ARGUMENT, () -> x.lock(0, -1, 1, true));
    refused(x, ARGUMENT, () -> x.lock(0, 80, 81, true));
    refused(x, ARGUMENT, () -> x.lock(0, 80, 80, true));
    refused(x, ARGUMENT, () -> x.lock(0, 5, 5, false));
    refused(x, ARGUMENT, () -> x.lock(0, 5, 4, false));
    refused(x, ARGUMENT, () -> x.lock(0, 0, 0, false));
    refused(x, ARGUMENT, () -> x.lock(0, 79, 81, false));
    refused(x, ARGUMENT, () -> x.lock(0, Integer.MAX_VALUE, Integer.MIN_VALUE, false));
    refused(x, ARGUMENT, () -> x.lock(0, 0, Integer.MAX_VALUE, false));
    due(x.lock(0, 0, 1, true), 1);
    due(x.lock(1, 79, 80, true), 1);
    due(x.lock(2, 1, 79, true), 1);
    due(x.lock(3, 0, 80, false), HELD);
    due(x.ofHandle(3, 3), 0);
    due(x.ofHandle(3, 4), 1);
    // WAITING for all three of them is no ring yet.
    due(x.ofHandle(3, 5), 0);
    x.unlock(0);
    x.unlock(1);
    due(x.lock(3, 0, 1, true), 1);
    due(x.lock(2, 0, 80, true), HELD);
    due(x.lock(3, 1, 2, false), HELD);
    due(x.ofHandle(2, 5), 1);
    due(x.ofHandle(3, 5), 1);
  }

  private static void unlocks() {
    Memoryfiles x = made();
    x.makeFile(01);
    x.open(01, 0);
    x.open(01, 0);
    due(x.unlock(0), 0);
    for (int i = 1; i <= 4; i++) {
      due(x.lock(0, 0, 80, true), i);
    }
    due(x.lock(1, 0, 1, false), HELD);
    due(x.unlock(1), 0);
    due(x.unlock(0), 4);
    due(x.unlock(0), 0);
    due(x.lock(1, 0, 1, false), 1);
  }

  private static void crashes() {
    Memoryfiles x = made();
    refused(x, ARGUMENT, () -> x.crash(501));
    refused(x, ARGUMENT, () -> x.crash(-1));
    due(x.crash(500), 0);
    due(x.house(9), 500);
    due(x.crash(1), 0);
    due(x.house(9), 1);
    due(x.crash(500), 0);
    x.makeFile(01);
    due(x.house(9), 496);
    due(x.back(0), 1);
    due(x.house(9), 495);
    x.flush();
    due(x.house(9), 493);
    due(x.crash(0), DOWN);
    due(x.house(9), NONE);
    due(x.crash(3), DOWN);
    due(x.mend(), 0);
    due(x.house(9), NONE);
  }

  private static void mends() {
    Memoryfiles x = made();
    refused(x, STATE, () -> x.mend());
    x.crash(5);
    refused(x, STATE, () -> x.mend());
    x.crash(0);
    due(x.mend(), 0);
    refused(x, STATE, () -> x.mend());
    for (int calls = 1; calls <= 3; calls++) {
      for (int i = 0; i < calls; i++) {
        x.quota(3, calls * 10 + i);
      }
      x.quota(3, calls * 10 + calls - 1);
      int writes = x.house(11);
      x.crash(0);
      due(x.mend(), calls);
      due(x.house(11), writes);
      due(x.ofUser(3, true), calls * 10 + calls - 1);
    }
  }

  private static void backs() {
    Memoryfiles x = made();
    refused(x, INDEX, () -> x.back(0));
    refused(x, INDEX, () -> x.back(-1));
    x.makeFile(01);
    refused(x, INDEX, () -> x.back(2));
    refused(x, INDEX, () -> x.back(-1));
    refused(x, INDEX, () -> x.back(Integer.MAX_VALUE));
    due(x.back(1), 1);
    refused(x, INDEX, () -> x.back(1));
    due(x.back(0), 0);
    refused(x, INDEX, () -> x.back(0));
    due(x.house(7), 4);
    x.makeFile(02);
    x.crash(1);
    due(x.back(1), DOWN);
    due(x.house(7), 8);
    due(x.mend(), 2);
    due(x.list(0, 1), "ab");
    x.makeFile(03);
    x.crash(1);
    // What is put BACK alone does not empty the JOURNAL: the call is done by that once more.
    due(x.back(0), DOWN);
    due(x.mend(), 1);
    due(x.list(0, 1), "abc");
  }

  private static void flushes() {
    Memoryfiles x = made();
    due(x.flush(), 0);
    x.makeFile(01);
    x.rights(01, 1);
    due(x.house(8), 2);
    due(x.flush(), 7);
    due(x.house(7) + x.house(8), 0);
    due(x.house(11), 1 + 7 + 2 + 1);
    x.be(3);
    due(x.flush(), 0);
    due(x.house(11), 12);
  }

  private static void keeps() {
    Memoryfiles x = made();
    refused(x, INDEX, () -> x.keep(2));
    refused(x, INDEX, () -> x.keep(-1));
    due(x.keep(0), 1);
    x.makeFile(01);
    x.open(01, 0);
    x.unlink(01);
    // One without LINKS that is open is one of them, too.
    due(x.keep(1), 2);
    due(x.house(15), 2);
    fillFiles(x, 30);
    due(x.keep(0), 30);
    due(x.house(14), 30);
    for (int user = 1; user <= 3; user++) {
      x.be(user);
      refused(x, SHUT, () -> x.keep(0));
      refused(x, SHUT, () -> x.drop(1));
      refused(x, INDEX, () -> x.keep(2));
      refused(x, INDEX, () -> x.drop(2));
    }
  }

  private static void drops() {
    Memoryfiles x = made();
    refused(x, INDEX, () -> x.drop(2));
    refused(x, INDEX, () -> x.drop(-1));
    refused(x, 0, () -> x.drop(0));
    x.makeFile(01);
    put(x, 01, 0, 80);
    x.keep(0);
    x.keep(1);
    x.cut(01, 24);
    due(x.house(5), 54);
    due(x.drop(0), 0);
    refused(x, 0, () -> x.drop(0));
    due(x.drop(1), 7);
    due(x.house(5), 61);
    due(x.house(15), 0);
    refused(x, NO, () -> x.slotByte(1, 01, 0));
  }

  private static void bytesOfASlot() {
    Memoryfiles x = made();
    x.makeDirectory(01);
    x.makeFile(011);
    x.makeSoft(012, 071);
    x.makeSoft(013, 033);
    put(x, 011, 0, 80);
    x.makeFile(02);
    put(x, 02, 0, 1);
    x.makeSoft(04, 011);
    x.rights(0, 0);
    x.rights(01, 0);
    x.rights(011, 0);
    x.keep(1);
    x.rights(0, 63);
    x.removeTree(01);
    x.makeDirectory(05);
    x.go(05);
    x.be(3);
    refused(x, 1, () -> x.slotByte(1, 011, 0));
    refused(x, 1, () -> x.slotByte(1, -011, 79));
    refused(x, 1, () -> x.slotByte(1, 04, 79));
    refused(x, ARGUMENT, () -> x.slotByte(1, 011, 80));
    refused(x, ARGUMENT, () -> x.slotByte(1, 011, -1));
    refused(x, INDEX, () -> x.slotByte(2, 011, 0));
    refused(x, INDEX, () -> x.slotByte(-1, 011, 80));
    for (int path : NO_PATHS) {
      refused(x, ARGUMENT, () -> x.slotByte(1, path, 0));
      refused(x, ARGUMENT, () -> x.slotByte(0, path, 0));
    }
    refused(x, 1, () -> x.slotByte(1, 02, 0));
    refused(x, NONE, () -> x.slotByte(1, 02, 1));
    refused(x, NONE, () -> x.slotByte(1, 02, 79));
    refused(x, NO, () -> x.slotByte(0, 0, 0));
    refused(x, NO, () -> x.slotByte(1, 05, 0));
    refused(x, NO, () -> x.slotByte(1, 03, 0));
    refused(x, FLAT, () -> x.slotByte(1, 026, 0));
    refused(x, TREE, () -> x.slotByte(1, 0, 0));
    refused(x, TREE, () -> x.slotByte(1, 01, 79));
    refused(x, TREE, () -> x.slotByte(1, 012, 0));
    refused(x, ROUND, () -> x.slotByte(1, 013, 0));
    x.be(0);
    x.removeTree(-05);
    x.makeSoft(-03, 033);
    x.keep(0);
    refused(x, ROUND, () -> x.slotByte(0, 03, 0));
  }

  private static void copies() {
    Memoryfiles x = made();
    x.makeDirectory(01);
    x.makeDirectory(011);
    x.makeFile(0111);
    x.makeSoft(012, 033);
    x.makeFile(02);
    x.makeSoft(03, 033);
    for (int path : NO_PATHS) {
      refused(x, ARGUMENT, () -> x.copyTree(path, 04));
    }
    for (int path : NO_PLACES) {
      refused(x, ARGUMENT, () -> x.copyTree(04, path));
    }
    // from; to; THERE; WITHIN; SHUT; FULL.
    refused(x, NO, () -> x.copyTree(04, 031));
    refused(x, ROUND, () -> x.copyTree(031, 041));
    refused(x, FLAT, () -> x.copyTree(026, 02));
    refused(x, NO, () -> x.copyTree(01, 041));
    refused(x, FLAT, () -> x.copyTree(01, 021));
    refused(x, ROUND, () -> x.copyTree(01, 031));
    refused(x, THERE, () -> x.copyTree(01, 011));
    refused(x, THERE, () -> x.copyTree(01, 01));
    refused(x, WITHIN, () -> x.copyTree(01, 013));
    refused(x, WITHIN, () -> x.copyTree(01, 0112));
    refused(x, WITHIN, () -> x.copyTree(0, 04));
    refused(x, WITHIN, () -> x.copyTree(0, 0112));
    x.rights(0111, 0);
    x.rights(01, 63);
    fillFiles(x, 29);
    x.be(2);
    refused(x, WITHIN, () -> x.copyTree(01, 013));
    refused(x, SHUT, () -> x.copyTree(01, 04));
    refused(x, SHUT, () -> x.copyTree(011, 04));
    refused(x, SHUT, () -> x.copyTree(0111, 04));
    refused(x, SHUT, () -> x.copyTree(01, 051));
    x.be(0);
    refused(x, FULL, () -> x.copyTree(01, 04));
    refused(x, FULL, () -> x.copyTree(011, 04));
    // A SOFT one is copied itself, and need not be READ.
    x.rights(0, 63);
    x.be(2);
    due(x.copyTree(012, 04), 1);
    due(x.house(4), 30);
    due(x.ofFile(29, 0), 2);
    due(x.ofFile(29, 5), 033);
    due(x.ofFile(29, 1), 2);
    refused(x, FULL, () -> x.copyTree(02, 013));
    due(x.isSound(), true);
  }

  private static void copiesBesides() {
    Memoryfiles x = made();
    x.makeDirectory(01);
    x.makeDirectory(012);
    x.makeFile(0123);
    x.link(0123, 011);
    put(x, 011, 0, 16);
    x.rights(012, 60);
    x.quota(0, 0);
    x.tick(3);
    // Within what is beside it, and from what lies deeper to above: neither is WITHIN.
    due(x.copyTree(012, 02), 2);
    due(x.copyTree(012, 013), 2);
    due(x.copyTree(01, 022), 6);
    due(x.ofBlock(0, 0), 6);
    due(x.house(5), 62);
    due(x.ofUser(0, false), 2);
    due(x.ofFile(4, 2), 60);
    due(x.ofFile(4, 3), 3);
    due(x.compare(01, 022), 1);
    due(x.isSound(), true);
    int file = x.find(0221, true);
    due(x.ofFile(file, 4), 1);
    due(x.wayOf(8), "/b/b");
    due(x.wayOf(9), "/b/b/a");
    due(x.wayOf(10), "/b/b/b");
    due(x.wayOf(11), "/b/b/b/c");
    due(x.wayOf(12), "/b/b/c");
    due(x.wayOf(13), "/b/b/c/c");
  }

  private static void removes() {
    Memoryfiles x = made();
    x.makeDirectory(01);
    x.makeDirectory(011);
    x.makeDirectory(0111);
    x.makeSoft(03, 033);
    x.makeFile(02);
    for (int path : NO_PLACES) {
      refused(x, ARGUMENT, () -> x.removeTree(path));
    }
    refused(x, NO, () -> x.removeTree(04));
    refused(x, NO, () -> x.removeTree(041));
    refused(x, FLAT, () -> x.removeTree(021));
    refused(x, ROUND, () -> x.removeTree(031));
    x.rights(01, 63);
    x.rights(011, 62);
    x.rights(0111, 62);
    x.be(2);
    refused(x, SHUT, () -> x.removeTree(01));
    refused(x, SHUT, () -> x.removeTree(011));
    refused(x, SHUT, () -> x.removeTree(0111));
    refused(x, NO, () -> x.removeTree(012));
    x.be(0);
    x.rights(011, 61);
    x.be(2);
    // The DIRECTORY without NAMES need not be WRITTEN, and none READ but along the PATH.
    due(x.removeTree(01), 3);
    due(x.removeTree(02), 1);
    due(x.removeTree(03), 1);
    due(x.house(4), 1);
    x.be(0);
    x.rights(0, 62);
    x.be(2);
    refused(x, SHUT, () -> x.removeTree(01));
  }

  private static void removesWhatElseHasNames() {
    Memoryfiles x = made();
    x.makeDirectory(01);
    x.makeFile(011);
    x.link(011, 012);
    x.link(011, 02);
    x.makeFile(013);
    x.open(013, 2);
    put(x, 013, 0, 8);
    due(x.removeTree(01), 4);
    due(x.ofFile(2, 4), 1);
    due(x.ofFile(3, 4), 0);
    due(x.house(4), 3);
    due(x.close(0), 1);
    due(x.house(5), 64);
    due(x.isSound(), true);
  }

  private static void compares() {
    Memoryfiles x = made();
    x.makeFile(01);
    x.makeFile(02);
    x.makeSoft(03, 033);
    x.makeDirectory(04);
    for (int path : NO_PATHS) {
      refused(x, ARGUMENT, () -> x.compare(path, 01));
      refused(x, ARGUMENT, () -> x.compare(01, path));
      refused(x, ARGUMENT, () -> x.compare(05, path));
    }
    refused(x, NO, () -> x.compare(05, 031));
    refused(x, ROUND, () -> x.compare(031, 05));
    refused(x, FLAT, () -> x.compare(016, 05));
    refused(x, NO, () -> x.compare(01, 05));
    refused(x, 1, () -> x.compare(01, 02));
    refused(x, 0, () -> x.compare(01, 03));
    refused(x, 0, () -> x.compare(01, 04));
    refused(x, 0, () -> x.compare(03, 04));
    x.cut(01, 80);
    refused(x, 0, () -> x.compare(01, 02));
    x.cut(02, 79);
    refused(x, 0, () -> x.compare(01, 02));
    x.cut(02, 80);
    // A HOLE is alike a BLOCK of BYTES of 0.
    int h = x.open(02, 1);
    x.write(h, 0, 9);
    due(x.ofFile(2, 6), 2);
    refused(x, 1, () -> x.compare(01, 02));
    x.seek(h, 79);
    x.write(h, 1, 1);
    refused(x, 0, () -> x.compare(01, 02));
    x.seek(h, 79);
    x.write(h, 0, 1);
    refused(x, 1, () -> x.compare(01, 02));
    x.seek(h, 0);
    x.write(h, 1, 1);
    refused(x, 0, () -> x.compare(01, 02));
    x.seek(h, 0);
    x.write(h, 0, 1);
    x.rights(01, 0);
    x.makeDirectory(041);
    x.makeDirectory(042);
    refused(x, 1, () -> x.compare(041, 042));
    x.makeSoft(0411, 0);
    refused(x, 0, () -> x.compare(041, 042));
    x.makeSoft(0421, -06);
    refused(x, 0, () -> x.compare(041, 042));
    x.unlink(0421);
    x.makeSoft(0421, 0);
    x.rights(041, 0);
    x.be(1);
    refused(x, 1, () -> x.compare(01, 02));
    refused(x, 1, () -> x.compare(041, 042));
    refused(x, SHUT, () -> x.compare(0411, 0421));
    refused(x, SHUT, () -> x.compare(0421, 0411));
  }

  /** 1 and 2 are LOST, 3 has the NAME c. */
  private static Memoryfiles withLost() {
    Memoryfiles x = made();
    for (int name = 1; name <= 3; name++) {
      x.makeFile(name);
      put(x, name, 0, 8);
      x.open(name, 0);
    }
    x.unlink(01);
    x.unlink(02);
    x.crash(0);
    x.mend();
    return x;
  }

  private static void adopts() {
    Memoryfiles x = withLost();
    x.makeSoft(04, 044);
    x.makeDirectory(05);
    for (int file : new int[] {0, 3, 4, 6, -1, 30, Integer.MIN_VALUE, Integer.MAX_VALUE}) {
      refused(x, INDEX, () -> x.adopt(file, 01));
      refused(x, INDEX, () -> x.adopt(file, 0));
    }
    for (int path : NO_PLACES) {
      refused(x, ARGUMENT, () -> x.adopt(1, path));
    }
    refused(x, NO, () -> x.adopt(1, 021));
    refused(x, FLAT, () -> x.adopt(1, 031));
    refused(x, ROUND, () -> x.adopt(1, 041));
    refused(x, THERE, () -> x.adopt(1, 03));
    x.be(2);
    refused(x, SHUT, () -> x.adopt(1, 051));
    due(x.adopt(1, 01), 1);
    due(x.ofFile(1, 1), 0);
    due(x.ofFile(1, 4), 1);
    due(x.house(16), 1);
    refused(x, INDEX, () -> x.adopt(1, 02));
    due(get(x, 01, 0, 20), "11111111");
    x.be(0);
    due(x.adopt(2, 055), 2);
    due(x.house(16), 0);
    refused(x, INDEX, () -> x.adopt(2, 02));
    due(x.isSound(), true);
  }

  private static void adoptsWhenFull() {
    Memoryfiles x = withLost();
    fillFiles(x, 30);
    // It has a number already.
    refused(x, FULL, () -> x.makeFile(-01));
    due(x.adopt(2, -01), 2);
    due(x.house(4), 30);
  }

  private static void purges() {
    Memoryfiles x = withLost();
    due(x.house(16), 2);
    due(x.house(5), 61);
    x.be(3);
    due(x.purge(), 2);
    due(x.house(16), 0);
    due(x.house(5), 63);
    due(x.house(4), 2);
    refused(x, 0, () -> x.purge());
    refused(x, INDEX, () -> x.ofFile(1, 0));
    due(x.makeFile(01), 1);
    // A SLOT keeps what is GONE.
    Memoryfiles y = withLost();
    y.keep(0);
    due(y.purge(), 2);
    due(y.house(5), 61);
    due(y.house(14), 4);
    due(y.drop(0), 2);
  }

  private static void harms() {
    Memoryfiles x = withLost();
    for (int n : new int[] {4, 29, 30, -1, Integer.MIN_VALUE, Integer.MAX_VALUE}) {
      refused(x, INDEX, () -> x.harm(false, n));
    }
    for (int n : new int[] {3, 63, 64, -1, Integer.MIN_VALUE, Integer.MAX_VALUE}) {
      refused(x, INDEX, () -> x.harm(true, n));
    }
    int writes = x.house(11);
    due(x.harm(false, 0), 2);
    due(x.harm(false, 1), 1);
    due(x.harm(false, 1), 2);
    due(x.harm(true, 2), 2);
    due(x.harm(true, 2), 3);
    due(x.house(11), writes);
    due(x.ofFile(1, 4), 2);
    due(x.ofFile(1, 8), 1);
    due(x.adopt(1, 01), 1);
    due(x.ofFile(1, 4), 3);
    x.keep(0);
    due(x.ofBlock(2, 0), 4);
    due(x.repair(), 3);
    due(x.ofFile(1, 4), 1);
    due(x.ofBlock(2, 0), 2);
    due(x.ofFile(0, 4), 1);
  }

  private static void harmAtTheEnds() {
    Memoryfiles x = made();
    fillFiles(x, 30);
    x.quota(0, 64);
    for (int i = 0; i < 7; i++) {
      put(x, -(0511 + i / 5 * 8 + i % 5), 0, i < 6 ? 80 : 32);
    }
    due(x.house(5), 0);
    due(x.harm(false, 29), 2);
    due(x.harm(true, 63), 2);
    due(x.harm(true, 0), 2);
    due(x.check(), "L/e/e/c B0:/e/a/a B63:/e/b/b");
    refused(x, INDEX, () -> x.harm(false, 30));
    refused(x, INDEX, () -> x.harm(true, 64));
    due(x.repair(), 3);
  }

  private static void checks() {
    Memoryfiles x = withLost();
    refused(x, "", () -> x.check());
    x.keep(1);
    x.copyTree(03, 01);
    x.link(01, 02);
    x.harm(true, 2);
    x.harm(false, 2);
    x.harm(false, 4);
    x.harm(true, 0);
    x.harm(false, 0);
    x.harm(false, 0);
    refused(x, "L/ L?2 L/a B0:?1 B2:/c", () -> x.check());
    x.unlink(03);
    refused(x, "L/ L?2 L/a B0:?1 B2:/a", () -> x.check());
    x.unlink(01);
    x.purge();
    refused(x, "L/ L/b B0:- B2:/b", () -> x.check());
    x.unlink(02);
    refused(x, "L/ B0:- B2:-", () -> x.check());
    x.drop(1);
    refused(x, "L/", () -> x.check());
    x.repair();
    refused(x, "", () -> x.check());
  }

  private static void finds() {
    Memoryfiles x = made();
    for (int path : NO_PATHS) {
      refused(x, ARGUMENT, () -> x.find(path, true));
      refused(x, ARGUMENT, () -> x.find(path, false));
    }
    for (int name = 1; name <= 5; name++) {
      x.makeDirectory(-name);
      due(x.find(name, true), name);
      due(x.find(-name, false), name);
    }
    refused(x, NO, () -> x.find(011, true));
  }

  private static void lists() {
    Memoryfiles x = made();
    x.makeDirectory(02);
    x.makeFile(04);
    x.makeSoft(05, 02);
    x.makeSoft(03, 033);
    String[] want = {"bcde", "bcde", "cde", "de", "e"};
    for (int from = 1; from <= 5; from++) {
      due(x.list(0, from), want[from - 1]);
    }
    refused(x, ARGUMENT, () -> x.list(0, 0));
    refused(x, ARGUMENT, () -> x.list(0, 6));
    for (int path : NO_PATHS) {
      refused(x, ARGUMENT, () -> x.list(path, 1));
    }
    refused(x, "", () -> x.list(02, 1));
    refused(x, "", () -> x.list(05, 5));
    refused(x, "-2", () -> x.list(01, 1));
    refused(x, "-3", () -> x.list(04, 1));
    refused(x, "-3", () -> x.list(046, 1));
    refused(x, "-7", () -> x.list(03, 1));
    x.makeFile(025);
    x.rights(02, 61);
    x.rights(04, 0);
    due(x.list(02, 5), "e");
    x.be(3);
    refused(x, "-5", () -> x.list(02, 1));
    refused(x, "-5", () -> x.list(025, 1));
    refused(x, "-3", () -> x.list(04, 1));
  }

  private static void asksOfFiles() {
    Memoryfiles x = made();
    fillFiles(x, 30);
    for (int what : new int[] {-1, 9, Integer.MIN_VALUE, Integer.MAX_VALUE}) {
      refused(x, ARGUMENT, () -> x.ofFile(0, what));
      refused(x, ARGUMENT, () -> x.ofFile(29, what));
      refused(x, INDEX, () -> x.ofFile(30, what));
      refused(x, INDEX, () -> x.ofFile(-1, what));
    }
    due(x.ofFile(29, 8), 0);
    due(x.ofFile(1, 5), 5);
    due(x.ofFile(0, 5), 1);
    x.unlink(-0553);
    refused(x, INDEX, () -> x.ofFile(29, 0));
    refused(x, INDEX, () -> x.wayOf(29));
    x.makeSoft(-01, -16777215);
    due(x.ofFile(29, 5), -16777215);
    due(x.ofFile(29, 6), 0);
    x.cut(-0511, 80);
    due(x.ofFile(7, 5), 80);
    due(x.ofFile(7, 6), 0);
    put(x, -0511, 0, 80);
    due(x.ofFile(7, 6), 10);
    for (int h = 1; h <= 6; h++) {
      x.open(-0511, 0);
      due(x.ofFile(7, 7), h);
    }
  }

  private static void asksOfBlocks() {
    Memoryfiles x = made();
    x.be(3);
    x.makeFile(01);
    x.open(01, 2);
    x.write(0, 99999999, 8);
    for (int what : new int[] {-1, 4}) {
      refused(x, ARGUMENT, () -> x.ofBlock(0, what));
      refused(x, ARGUMENT, () -> x.ofBlock(63, what));
      refused(x, INDEX, () -> x.ofBlock(64, what));
      refused(x, INDEX, () -> x.ofBlock(-1, what));
    }
    int[] want = {1, 3, 72, 0};
    int[] free = {0, NONE, 0, 0};
    for (int what = 0; what <= 3; what++) {
      due(x.ofBlock(0, what), want[what]);
      due(x.ofBlock(63, what), free[what]);
    }
    x.seek(0, 7);
    x.read(0, 1);
    due(x.ofBlock(0, 3), 1);
    x.unlink(01);
    x.close(0);
    free[3] = 1;
    for (int what = 0; what <= 3; what++) {
      due(x.ofBlock(0, what), free[what]);
    }
  }

  private static void asksOfUsersAndHandles() {
    Memoryfiles x = made();
    x.be(3);
    x.makeFile(01);
    put(x, 01, 0, 80);
    due(x.ofUser(3, false), 10);
    due(x.ofUser(0, false), 0);
    due(x.ofUser(0, true), 64);
    due(x.ofUser(3, true), 64);
    for (int user : new int[] {-1, 4, Integer.MIN_VALUE, Integer.MAX_VALUE}) {
      refused(x, ARGUMENT, () -> x.ofUser(user, true));
      refused(x, ARGUMENT, () -> x.ofUser(user, false));
    }
    for (int what : new int[] {-1, 6}) {
      refused(x, ARGUMENT, () -> x.ofHandle(0, what));
      refused(x, ARGUMENT, () -> x.ofHandle(5, what));
      refused(x, INDEX, () -> x.ofHandle(6, what));
      refused(x, INDEX, () -> x.ofHandle(-1, what));
    }
    for (int h = 0; h <= 5; h++) {
      x.open(01, h % 4);
    }
    x.close(4);
    for (int what = 0; what <= 5; what++) {
      due(x.ofHandle(4, what), NONE);
    }
    int[] want = {1, 1, 0, 0, 0, 0};
    for (int what = 0; what <= 5; what++) {
      due(x.ofHandle(5, what), want[what]);
    }
  }

  private static void asksOfTheHouse() {
    Memoryfiles x = made();
    refused(x, ARGUMENT, () -> x.house(18));
    refused(x, ARGUMENT, () -> x.house(-1));
    due(x.knock(), 1);
    due(x.house(17), 1);
    x.makeFile(01);
    x.open(01, 0);
    x.crash(0);
    due(x.knock(), 2);
    due(told(() -> x.house(18)), ARGUMENT);
    due(told(() -> x.house(-1)), ARGUMENT);
    int[] want = {0, 0, 0, NONE, 0, 0, 0, 4, 0, NONE, 1, 4, 0, 0, 0, 0, 0, 2};
    for (int what = 0; what <= 17; what++) {
      due(x.house(what), want[what]);
    }
    due(x.isSound(), true);
    x.mend();
    due(x.knock(), 3);
    due(x.house(17), 3);
  }

  private static void digests() {
    Memoryfiles x = made();
    long before = x.digest();
    due(x.digest(), before);
    // Each of these is one of the numbers.
    Runnable[] changes = {() -> x.be(1), () -> x.tick(1), () -> x.watch(0), () -> x.knock(), () -> x.makeFile(01),
      () -> x.open(01, 2), () -> x.seek(0, 79), () -> x.write(0, 7, 1), () -> x.lock(0, 0, 1, true),
      () -> x.harm(false, 0), () -> x.harm(true, 0), () -> x.repair(), () -> x.crash(400), () -> x.be(0),
      () -> x.quota(3, 63), () -> x.keep(1), () -> x.flush(), () -> x.makeDirectory(02), () -> x.go(02),
      () -> x.seek(0, 78), () -> x.read(0, 1), () -> x.open(-01, 0), () -> x.lock(1, 0, 1, false),
      () -> x.rights(-01, 59), () -> x.crash(0), () -> x.mend(), () -> x.seek(0, 0)};
    for (int i = 0; i < changes.length - 1; i++) {
      changes[i].run();
      due(x.digest() != before, true);
      before = x.digest();
      due(x.digest(), before);
    }
    due(told(() -> x.seek(0, 0)), INDEX);
    due(x.digest(), before);
  }

  private static void first() {
    edge("1 (A new object)", MemoryfilesCallEdges::newObject);
    edge("2 (be)", MemoryfilesCallEdges::another);
    edge("3 (tick)", MemoryfilesCallEdges::clock);
    edge("3 (tick): if it would be above 1000000", MemoryfilesCallEdges::clockMillion);
    edge("4 (go)", MemoryfilesCallEdges::goes);
    edge("5 (watch)", MemoryfilesCallEdges::watches);
    edge("6 (heard)", MemoryfilesCallEdges::hears);
    edge("7 (makeDirectory), 8 (makeFile), 9 (makeSoft)", MemoryfilesCallEdges::makers);
    edge("9 (makeSoft)", MemoryfilesCallEdges::makesSoft);
    edge("10 (link)", MemoryfilesCallEdges::links);
    edge("11 (unlink)", MemoryfilesCallEdges::unlinks);
    edge("12 (move)", MemoryfilesCallEdges::moves);
    edge("12 (move): if both NAMES lead to the same FILE", MemoryfilesCallEdges::movesBetweenNames);
    edge("13 (rights)", MemoryfilesCallEdges::tellsRights);
    edge("14 (quota)", MemoryfilesCallEdges::tellsQuota);
    edge("15 (cut)", MemoryfilesCallEdges::cuts);
    edge("15 (cut): SHUT, if USER is not ABLE to WRITE it", MemoryfilesCallEdges::cutsByRights);
    edge("15 (cut): if one of the BYTES behind it is not 0", MemoryfilesCallEdges::cutOfShared);
    edge("15 (cut): First BLOCKS are let go; then", MemoryfilesCallEdges::cutLetsGoFirst);
    edge("16 (open)", MemoryfilesCallEdges::opens);
    edge("16 (open): with PLACE 0", MemoryfilesCallEdges::opensAtZero);
    edge("16 (open), 19 (read), 20 (write): SHUT", MemoryfilesCallEdges::staysOpen);
    edge("17 (close)", MemoryfilesCallEdges::closes);
    edge("18 (seek)", MemoryfilesCallEdges::seeks);
    edge("19 (read)", MemoryfilesCallEdges::reads);
    edge("19 (read): HELD", MemoryfilesCallEdges::readsThatAreHeld);
    edge("19 (read): from PLACE to below PLACE + many", MemoryfilesCallEdges::readsWhatIsHeldBehindSize);
    edge("20 (write)", MemoryfilesCallEdges::writes);
    edge("20 (write): WAY 3", MemoryfilesCallEdges::writesAtTheEnd);
    edge("20 (write): SHUT; FULL; HELD; FULL", MemoryfilesCallEdges::writesInOrder);
    edge("21 (lock)", MemoryfilesCallEdges::locks);
    edge("22 (unlock)", MemoryfilesCallEdges::unlocks);
    edge("23 (crash)", MemoryfilesCallEdges::crashes);
    edge("24 (mend)", MemoryfilesCallEdges::mends);
    edge("25 (back)", MemoryfilesCallEdges::backs);
    edge("26 (flush)", MemoryfilesCallEdges::flushes);
  }

  private static void second() {
    edge("27 (keep)", MemoryfilesCallEdges::keeps);
    edge("28 (drop)", MemoryfilesCallEdges::drops);
    edge("29 (slotByte)", MemoryfilesCallEdges::bytesOfASlot);
    edge("30 (copyTree)", MemoryfilesCallEdges::copies);
    edge("30 (copyTree): the same BLOCKS; first, then NAME by NAME", MemoryfilesCallEdges::copiesBesides);
    edge("31 (removeTree)", MemoryfilesCallEdges::removes);
    edge("31 (removeTree): each likewise", MemoryfilesCallEdges::removesWhatElseHasNames);
    edge("32 (compare)", MemoryfilesCallEdges::compares);
    edge("33 (adopt)", MemoryfilesCallEdges::adopts);
    edge("33 (adopt), with all 30 FILES", MemoryfilesCallEdges::adoptsWhenFull);
    edge("34 (purge)", MemoryfilesCallEdges::purges);
    edge("35 (harm)", MemoryfilesCallEdges::harms);
    edge("35 (harm), of the last FILE and BLOCK", MemoryfilesCallEdges::harmAtTheEnds);
    edge("36 (repair), 37 (check)", MemoryfilesCallEdges::checks);
    edge("38 (find)", MemoryfilesCallEdges::finds);
    edge("39 (list)", MemoryfilesCallEdges::lists);
    edge("40 (ofFile), 41 (wayOf)", MemoryfilesCallEdges::asksOfFiles);
    edge("42 (ofBlock)", MemoryfilesCallEdges::asksOfBlocks);
    edge("43 (ofUser), 44 (ofHandle)", MemoryfilesCallEdges::asksOfUsersAndHandles);
    edge("45 (house), 46 (knock), 47 (isSound)", MemoryfilesCallEdges::asksOfTheHouse);
    edge("48 (digest)", MemoryfilesCallEdges::digests);
  }

  public static void main(String[] args) {
    first();
    second();
    System.out.println(wrong == 0 ? tests + " edges of calls hold" : wrong + " answers are not as due");
    if (wrong != 0) {
      System.exit(1);
    }
  }
}
