import java.util.function.Supplier;

/**
 * The document's Description: each sentence that names a boundary case has a test of its own here, told by the
 * sentence. PATHS are written in the radix 8.
 */
public final class MemoryfilesEdges {
  private static final int NONE = -1;
  private static final int NO = -2;
  private static final int FLAT = -3;
  private static final int THERE = -4;
  private static final int SHUT = -5;
  private static final int DOWN = -6;
  private static final int ROUND = -7;
  private static final int FULL = -8;
  private static final int LADEN = -9;
  private static final int TREE = -10;
  private static final int WITHIN = -11;
  private static final int HELD = -12;

  private static final Class<?> ARGUMENT = IllegalArgumentException.class;
  private static final Class<?> INDEX = IndexOutOfBoundsException.class;
  private static final Class<?> STATE = IllegalStateException.class;

  private static int tests = 0;
  private static int wrong = 0;
  private static String sentence = "";

  private static void edge(String told, Runnable test) {
    tests++;
    sentence = told;
    try {
      test.run();
    } catch (RuntimeException e) {
      tell(e.toString(), "no exception", e.getStackTrace());
    }
  }

  private static void due(Object got, Object want) {
    if (!want.equals(got)) {
      tell(String.valueOf(got), String.valueOf(want), Thread.currentThread().getStackTrace());
    }
  }

  private static void tell(String got, String want, StackTraceElement[] way) {
    wrong++;
    StringBuilder lines = new StringBuilder();
    for (StackTraceElement step : way) {
      if (step.getClassName().equals("MemoryfilesEdges") && !step.getMethodName().equals("main")) {
        lines.append(' ').append(step.getLineNumber());
      }
    }
    System.out.println("\"" + sentence + "\", lines" + lines + ": answered " + got + ", due is " + want);
  }

  /** What the call answers, or the exception's name. */
  private static Object told(Supplier<Object> call) {
    try {
      return call.get();
    } catch (RuntimeException e) {
      return e.getClass();
    }
  }

  /** The call answers so (a number, a text, or an exception), and changes nothing. */
  private static void refused(Memoryfiles x, Object want, Supplier<Object> call) {
    long before = x.digest();
    due(told(call), want);
    due(x.digest(), before);
  }

  private static Memoryfiles made() {
    return new Memoryfiles();
  }

  /** Makes FILES below the NAME e of ROOT, till there are so many: 1 is e, 2 to 6 in e, then five in each of those. */
  private static void fillFiles(Memoryfiles x, int many) {
    for (int home : new int[] {-05, -051, -052, -053, -054, -055}) {
      if (x.house(4) < many) {
        x.makeDirectory(home);
      }
    }
    for (int i = 0; i < 25 && x.house(4) < many; i++) {
      x.makeFile(-(0500 + (i / 5 + 1) * 8 + i % 5 + 1));
    }
  }

  /** Makes FILES in d and e of ROOT with so many BLOCKS, of ten each: 0, 1, 2 and so on, each with BYTES of 1. */
  private static void fillBlocks(Memoryfiles x, int many) {
    x.makeDirectory(-04);
    x.makeDirectory(-05);
    for (int i = 0; i * 10 < many; i++) {
      int path = -((i < 5 ? 040 : 050) + i % 5 + 1);
      x.makeFile(path);
      put(x, path, 0, Math.min(many - i * 10, 10) * 8);
    }
  }

  /** Writes BYTES of 1 from one place to below another one, eight at once. */
  private static int put(Memoryfiles x, int path, int from, int to) {
    int h = x.open(path, 1);
    x.seek(h, from);
    int answer = 0;
    for (int at = from; at < to; at += 8) {
      answer = x.write(h, 11111111, Math.min(to - at, 8));
    }
    x.close(h);
    return answer;
  }

  /** BYTES of a FILE, from one place on. */
  private static String get(Memoryfiles x, int path, int from, int many) {
    int h = x.open(path, 0);
    x.seek(h, from);
    String all = x.read(h, many);
    x.close(h);
    return all;
  }

  // ahead of the sections

  private static void firstException() {
    Memoryfiles x = made();
    x.makeFile(01);
    for (int i = 0; i < 400; i++) {
      x.tick(1000);
    }
    refused(x, INDEX, () -> x.seek(0, 81));
    refused(x, INDEX, () -> x.read(0, 21));
    refused(x, INDEX, () -> x.write(0, -1, 10));
    refused(x, INDEX, () -> x.lock(0, 80, 80, true));
    refused(x, INDEX, () -> x.slotByte(2, 010, 80));
    refused(x, INDEX, () -> x.adopt(1, 010));
    refused(x, INDEX, () -> x.ofFile(2, 9));
    refused(x, INDEX, () -> x.ofBlock(64, 4));
    refused(x, INDEX, () -> x.ofHandle(6, 6));
  }

  private static void exceptionsAheadOfNumbers() {
    Memoryfiles x = made();
    x.makeFile(01);
    x.makeDirectory(02);
    x.be(1);
    x.open(01, 0);
    refused(x, ARGUMENT, () -> x.quota(4, 0));
    refused(x, INDEX, () -> x.keep(2));
    refused(x, INDEX, () -> x.drop(-1));
    refused(x, ARGUMENT, () -> x.makeFile(026));
    refused(x, ARGUMENT, () -> x.makeSoft(021, 8));
    refused(x, ARGUMENT, () -> x.link(03, 026));
    refused(x, ARGUMENT, () -> x.move(03, 0));
    refused(x, ARGUMENT, () -> x.rights(03, 64));
    refused(x, ARGUMENT, () -> x.cut(03, 81));
    refused(x, ARGUMENT, () -> x.open(03, 4));
    refused(x, ARGUMENT, () -> x.write(0, 1, 10));
    refused(x, ARGUMENT, () -> x.slotByte(0, 03, 80));
    refused(x, ARGUMENT, () -> x.copyTree(03, 0));
    refused(x, ARGUMENT, () -> x.compare(03, 8));
    refused(x, ARGUMENT, () -> x.list(03, 6));
  }

  private static void downAheadOfExceptions() {
    Memoryfiles x = made();
    x.crash(0);
    long before = x.digest();
    for (int n : new int[] {Integer.MIN_VALUE, -16777216, -2, -1, 0, 1, 8, 16777216, Integer.MAX_VALUE}) {
      int[] all = {x.be(n), x.tick(n), x.go(n), x.watch(n), x.makeDirectory(n), x.makeFile(n), x.makeSoft(n, n),
        x.link(n, n), x.unlink(n), x.move(n, n), x.rights(n, n), x.quota(n, n), x.cut(n, n), x.open(n, n), x.close(n),
        x.seek(n, n), x.write(n, n, n), x.lock(n, n, n, true), x.unlock(n), x.crash(n), x.back(n), x.flush(),
        x.keep(n), x.drop(n), x.slotByte(n, n, n), x.copyTree(n, n), x.removeTree(n), x.compare(n, n), x.adopt(n, n),
        x.purge(), x.harm(true, n), x.harm(false, n), x.repair(), x.find(n, true), x.find(n, false), x.ofFile(n, n),
        x.ofBlock(n, n), x.ofUser(n, true), x.ofUser(n, false), x.ofHandle(n, n)};
      for (int one : all) {
        due(one, DOWN);
      }
      for (String one : new String[] {x.heard(), x.read(n, n), x.check(), x.list(n, n), x.wayOf(n)}) {
        due(one, "-6");
      }
    }
    due(x.digest(), before);
    due(told(() -> x.house(18)), ARGUMENT);
    due(told(() -> x.house(-1)), ARGUMENT);
    due(x.knock(), 1);
    due(x.isSound(), true);
    due(x.mend(), 0);
    due(told(() -> x.mend()), STATE);
  }

  // 1. Files, names, paths

  private static void thirtyFiles() {
    Memoryfiles x = made();
    fillFiles(x, 29);
    due(x.makeFile(-01), 29);
    due(x.house(4), 30);
    due(x.ofFile(29, 0), 0);
    refused(x, INDEX, () -> x.ofFile(30, 0));
    refused(x, FULL, () -> x.makeFile(-02));
    refused(x, FULL, () -> x.makeDirectory(-02));
    refused(x, FULL, () -> x.makeSoft(-02, 0));
    refused(x, FULL, () -> x.copyTree(-01, -02));
    // One NAME more for a FILE that is there needs no number.
    due(x.link(-01, -02), 2);
    due(x.isSound(), true);
  }

  private static void thirtyFilesByCopy() {
    Memoryfiles x = made();
    fillFiles(x, 26);
    x.makeDirectory(01);
    x.makeFile(011);
    // There are 28 now: two more are just as many as there may be.
    due(x.copyTree(01, 02), 2);
    due(x.house(4), 30);
    x.unlink(011);
    refused(x, FULL, () -> x.copyTree(02, 03));
    due(x.copyTree(021, 03), 1);
    refused(x, FULL, () -> x.copyTree(021, 04));
  }

  private static void smallestNumber() {
    Memoryfiles x = made();
    fillFiles(x, 30);
    x.unlink(-0534);
    x.unlink(-0511);
    x.unlink(-0553);
    due(x.makeSoft(01, 0), 7);
    due(x.makeFile(02), 20);
    due(x.makeDirectory(03), 29);
    refused(x, FULL, () -> x.makeFile(04));
  }

  private static void openKeepsNumber() {
    Memoryfiles x = made();
    x.makeFile(01);
    int h = x.open(01, 0);
    x.unlink(01);
    due(x.makeFile(01), 2);
    due(x.close(h), 1);
    due(x.makeFile(02), 1);
  }

  private static void newFile() {
    for (int user = 0; user <= 3; user++) {
      Memoryfiles x = made();
      x.be(user);
      x.tick(user * 3);
      x.makeFile(01);
      x.makeDirectory(02);
      x.makeSoft(03, 02);
      for (int file = 1; file <= 3; file++) {
        due(x.ofFile(file, 0), file - 1);
        due(x.ofFile(file, 1), user);
        due(x.ofFile(file, 2), 58);
        due(x.ofFile(file, 3), user * 3);
        due(x.ofFile(file, 4), 1);
      }
    }
  }

  private static void linksOfRoot() {
    Memoryfiles x = made();
    due(x.ofFile(0, 4), 1);
    x.makeDirectory(01);
    x.makeDirectory(011);
    due(x.ofFile(0, 4), 1);
    due(x.ofFile(1, 4), 1);
    refused(x, TREE, () -> x.link(0, 02));
    due(x.isSound(), true);
  }

  private static void rootAlone() {
    Memoryfiles x = made();
    due(x.house(4), 1);
    int[] want = {1, 0, 63, 0, 1, 0, 0, 0, 0};
    for (int what = 0; what <= 8; what++) {
      due(x.ofFile(0, what), want[what]);
    }
    refused(x, INDEX, () -> x.ofFile(1, 0));
  }

  private static void fiveNames() {
    Memoryfiles x = made();
    for (int name = 1; name <= 5; name++) {
      due(x.makeFile(name), name);
    }
    due(x.list(0, 1), "abcde");
    due(x.ofFile(0, 5), 5);
    due(x.wayOf(1), "/a");
    due(x.wayOf(5), "/e");
    refused(x, ARGUMENT, () -> x.makeFile(06));
    refused(x, ARGUMENT, () -> x.makeFile(07));
    refused(x, ARGUMENT, () -> x.unlink(06));
  }

  /** What is done with a DIRECTORY is done with each of its NAMES, the first and the last. */
  private static void eachOfFiveNames() {
    for (int i = 1; i <= 5; i++) {
      int name = i;
      Memoryfiles x = made();
      x.makeDirectory(01);
      x.makeDirectory(02);
      x.makeDirectory(010 + name);
      x.makeFile(0100 + name * 8 + 6 - name);
      due(x.ofFile(1, 5), 1);
      refused(x, LADEN, () -> x.unlink(01));
      refused(x, LADEN, () -> x.move(02, 01));
      refused(x, 0, () -> x.compare(01, 02));
      refused(x, 0, () -> x.compare(02, 01));
      due(x.copyTree(01, 03), 3);
      due(x.find(0300 + name * 8 + 6 - name, true), 7);
      refused(x, 1, () -> x.compare(01, 03));
      x.cut(0300 + name * 8 + 6 - name, 1);
      refused(x, 0, () -> x.compare(01, 03));
      x.rights(0100 + name * 8 + 6 - name, 0);
      x.rights(010 + name, 58);
      x.rights(01, 63);
      x.be(1);
      refused(x, SHUT, () -> x.copyTree(01, 04));
      refused(x, SHUT, () -> x.removeTree(01));
      due(x.list(01, 1), String.valueOf((char) ('a' + name - 1)));
      x.be(0);
      due(x.removeTree(01), 3);
      due(x.removeTree(03), 3);
      due(x.house(4), 2);
    }
  }

  private static void oneFileForOneName() {
    Memoryfiles x = made();
    x.makeFile(01);
    int h = x.open(01, 0);
    x.unlink(01);
    x.crash(0);
    x.mend();
    for (int name = 1; name <= 5; name++) {
      x.makeFile(name);
    }
    for (int i = 1; i <= 5; i++) {
      int name = i;
      refused(x, THERE, () -> x.makeFile(name));
      refused(x, THERE, () -> x.makeDirectory(name));
      refused(x, THERE, () -> x.makeSoft(name, 0));
      refused(x, THERE, () -> x.link(01, name));
      refused(x, THERE, () -> x.copyTree(01, name));
      refused(x, THERE, () -> x.adopt(1, name));
    }
    due(h, 0);
    due(x.house(4), 7);
  }

  private static void rootIsInItself() {
    Memoryfiles x = made();
    x.makeDirectory(01);
    due(x.find(-07, true), 0);
    due(x.find(-077777777, true), 0);
    due(x.find(-0177, true), 0);
    due(x.find(-0171, true), 1);
    due(x.go(-01), 1);
    due(x.find(07, false), 0);
    due(x.find(077, false), 0);
  }

  private static void otherDirectory() {
    Memoryfiles x = made();
    x.makeDirectory(01);
    x.makeDirectory(02);
    x.makeDirectory(011);
    x.go(011);
    due(x.move(-011, -023), 0);
    due(x.house(1), 3);
    due(x.find(07, true), 2);
    due(x.find(-0237, true), 2);
    refused(x, TREE, () -> x.link(-023, -03));
  }

  private static void pathsFromTo() {
    Memoryfiles x = made();
    due(x.find(16777215, true), 0);
    due(x.find(-16777215, true), 0);
    for (int n : new int[] {16777216, -16777216, 0111111111, -0111111111, Integer.MAX_VALUE, Integer.MIN_VALUE}) {
      refused(x, ARGUMENT, () -> x.find(n, true));
      refused(x, ARGUMENT, () -> x.makeFile(n));
      refused(x, ARGUMENT, () -> x.makeSoft(01, n));
    }
    due(x.makeSoft(01, 16777215), 1);
    due(x.makeSoft(02, -16777215), 2);
    due(x.ofFile(1, 5), 16777215);
    due(x.ofFile(2, 5), -16777215);
    due(x.makeFile(-066666661), THERE);
    due(x.makeFile(-066666663), 3);
    due(x.makeFile(077777774), 4);
  }

  private static void noDigitZero() {
    Memoryfiles x = made();
    for (int length = 2; length <= 8; length++) {
      for (int zero = 0; zero < length - 1; zero++) {
        int path = 0;
        for (int i = length - 1; i >= 0; i--) {
          path = path * 8 + (i == zero ? 0 : 6);
        }
        int n = path;
        refused(x, ARGUMENT, () -> x.find(n, true));
        refused(x, ARGUMENT, () -> x.find(-n, false));
      }
    }
    due(x.find(066666666, true), 0);
    refused(x, ARGUMENT, () -> x.makeFile(0101));
    refused(x, ARGUMENT, () -> x.makeFile(-010000001));
  }

  private static void zeroHasNoStep() {
    Memoryfiles x = made();
    x.makeDirectory(01);
    x.go(01);
    due(x.find(0, true), 1);
    due(x.find(0, false), 1);
    refused(x, ARGUMENT, () -> x.makeFile(0));
    refused(x, ARGUMENT, () -> x.unlink(0));
    refused(x, ARGUMENT, () -> x.removeTree(0));
    x.rights(-01, 0);
    x.be(2);
    // Where no STEP is, nothing has to be READ.
    due(x.find(0, true), 1);
    due(x.find(06, true), SHUT);
  }

  private static void whereItBegins() {
    Memoryfiles x = made();
    x.makeDirectory(01);
    x.makeFile(02);
    x.makeFile(012);
    x.go(01);
    due(x.find(02, true), 3);
    due(x.find(-02, true), 2);
    due(x.find(06, true), 1);
    due(x.find(-06, true), 0);
    due(x.makeFile(03), 4);
    due(x.makeFile(-03), 5);
    due(x.wayOf(4), "/a/c");
    due(x.wayOf(5), "/c");
  }

  private static void eachStepNeedsADirectory() {
    Memoryfiles x = made();
    x.makeFile(01);
    x.makeDirectory(02);
    x.rights(01, 0);
    x.rights(02, 63 - 2);
    x.be(3);
    due(x.find(01, true), 1);
    due(x.find(016, true), FLAT);
    due(x.find(017, true), FLAT);
    due(x.find(011, true), FLAT);
    due(x.find(02, true), 2);
    due(x.find(026, true), SHUT);
    due(x.find(027, true), SHUT);
    due(x.find(021, true), SHUT);
    due(x.find(03, true), NO);
    due(x.find(031, true), NO);
    x.be(2);
    due(x.find(026, true), SHUT);
    x.be(1);
    due(x.find(026, true), 2);
    due(x.find(027, true), 0);
    due(x.find(021, true), NO);
  }

  private static void softGoneOrNot() {
    Memoryfiles x = made();
    x.makeDirectory(01);
    x.makeFile(02);
    x.makeSoft(03, 01);
    x.makeSoft(04, 02);
    x.makeSoft(05, 055);
    due(x.find(03, false), 3);
    due(x.find(03, true), 1);
    due(x.find(036, false), 1);
    due(x.find(037, false), 0);
    due(x.find(04, false), 4);
    due(x.find(04, true), 2);
    due(x.find(046, false), FLAT);
    x.unlink(02);
    due(x.find(04, true), NO);
    due(x.find(04, false), 4);
    due(x.find(05, false), 5);
    due(x.find(05, true), ROUND);
  }

  private static void softFromItsDirectory() {
    Memoryfiles x = made();
    x.makeDirectory(01);
    x.makeDirectory(011);
    x.makeFile(013);
    x.makeFile(03);
    x.makeSoft(0114, 073);
    x.makeSoft(0115, -03);
    x.makeSoft(0112, 0);
    x.makeSoft(02, 0114);
    x.link(0114, 014);
    x.go(011);
    due(x.find(04, true), 3);
    due(x.find(05, true), 4);
    due(x.find(02, true), 2);
    due(x.find(02222, true), 2);
    x.go(-06);
    due(x.find(0114, true), 3);
    due(x.find(0115, true), 4);
    due(x.find(02, true), 3);
    // The same SOFT one by another NAME begins where that NAME is.
    due(x.find(014, true), 4);
    x.move(0114, 04);
    due(x.find(04, true), 4);
  }

  private static void eightSoftOnes() {
    Memoryfiles x = made();
    x.makeDirectory(01);
    x.makeSoft(011, 0);
    x.makeSoft(012, 01);
    x.makeSoft(013, 02);
    x.makeSoft(014, 04);
    x.go(01);
    // To go a is one SOFT one, b two, c three.
    due(x.find(011111111, true), 1);
    due(x.find(02222, true), 1);
    due(x.find(0221111, true), 1);
    due(x.find(03311, true), 1);
    due(x.find(021111116, true), 1);
    refused(x, ROUND, () -> x.find(021111111, true));
    refused(x, ROUND, () -> x.find(022221, true));
    refused(x, ROUND, () -> x.find(0333, true));
    // At the end it is not gone, if the PATH is not FOLLOWED.
    due(x.find(021111111, false), 2);
    due(x.find(0333, false), 4);
    due(x.find(02222111, false), ROUND);
    due(x.find(03333, false), ROUND);
    due(x.find(04, false), 5);
    due(x.find(04, true), ROUND);
    due(x.find(041, false), ROUND);
  }

  private static void ninthSoftGoesAhead() {
    Memoryfiles x = made();
    x.makeDirectory(01);
    x.makeSoft(011, 0);
    x.makeSoft(012, 01);
    x.makeSoft(013, 05);
    x.makeSoft(014, 0111111);
    x.go(01);
    // The ninth one is not gone at all: that its PATH leads nowhere is not met.
    due(x.find(011111113, true), NO);
    due(x.find(021111113, true), ROUND);
    // A SOFT one that is gone while another one is counts for the same PATH.
    due(x.find(041, true), 1);
    due(x.find(0411, true), ROUND);
    due(x.find(042, true), ROUND);
  }

  private static void eachToldPathCountsAnew() {
    Memoryfiles x = made();
    x.makeDirectory(01);
    x.makeSoft(011, 0);
    x.makeSoft(012, 01);
    x.makeFile(013);
    x.go(01);
    due(x.link(022223, 022224), 2);
    due(x.move(022224, 022225), 0);
    due(x.compare(022223, 022225), 1);
    due(x.find(024, true), NO);
    refused(x, ROUND, () -> x.move(0222213, 04));
    refused(x, ROUND, () -> x.move(03, 0222214));
    refused(x, ROUND, () -> x.link(0222213, 04));
    refused(x, ROUND, () -> x.link(03, 0222214));
    refused(x, ROUND, () -> x.copyTree(0222213, 04));
    refused(x, ROUND, () -> x.copyTree(03, 0222214));
    refused(x, ROUND, () -> x.compare(0222213, 03));
    refused(x, ROUND, () -> x.compare(03, 0222213));
    refused(x, ROUND, () -> x.makeFile(0222214));
    refused(x, ROUND, () -> x.unlink(0222213));
    refused(x, ROUND, () -> x.removeTree(0222213));
    due(x.copyTree(022223, 022224), 1);
    due(x.unlink(022224), 0);
  }

  private static void endNeedNotBeRead() {
    Memoryfiles x = made();
    x.makeDirectory(01);
    x.makeFile(02);
    x.makeSoft(03, 01);
    x.rights(01, 0);
    x.rights(02, 0);
    x.be(1);
    due(x.find(01, true), 1);
    due(x.find(02, true), 2);
    due(x.find(03, true), 1);
    due(x.go(03), 1);
    refused(x, SHUT, () -> x.find(06, true));
  }

  private static void placeEndsWithAName() {
    Memoryfiles x = made();
    x.makeDirectory(01);
    for (int last : new int[] {6, 7}) {
      refused(x, ARGUMENT, () -> x.makeDirectory(010 + last));
      refused(x, ARGUMENT, () -> x.makeFile(-(010 + last)));
      refused(x, ARGUMENT, () -> x.makeSoft(last, 0));
      refused(x, ARGUMENT, () -> x.link(01, last));
      refused(x, ARGUMENT, () -> x.unlink(010 + last));
      refused(x, ARGUMENT, () -> x.move(last, 02));
      refused(x, ARGUMENT, () -> x.move(01, last));
      refused(x, ARGUMENT, () -> x.copyTree(01, last));
      refused(x, ARGUMENT, () -> x.removeTree(010 + last));
    }
    due(x.makeFile(015), 2);
    due(x.makeFile(0161), 3);
    due(x.makeFile(0173), 4);
    due(x.wayOf(3), "/a/a");
    due(x.wayOf(4), "/c");
  }

  private static void placeFromRoot() {
    Memoryfiles x = made();
    x.makeDirectory(01);
    x.go(01);
    due(x.makeFile(-02), 2);
    due(x.wayOf(2), "/b");
    due(x.makeFile(02), 3);
    due(x.wayOf(3), "/a/b");
    due(x.makeFile(-013), 4);
    due(x.wayOf(4), "/a/c");
  }

  private static void placeInADirectory() {
    Memoryfiles x = made();
    x.makeDirectory(01);
    x.makeFile(02);
    x.makeSoft(03, 01);
    x.makeSoft(04, 02);
    x.makeSoft(05, 055);
    x.rights(02, 0);
    x.rights(01, 62);
    refused(x, FLAT, () -> x.makeFile(021));
    refused(x, FLAT, () -> x.makeFile(041));
    refused(x, ROUND, () -> x.makeFile(051));
    due(x.makeFile(031), 6);
    due(x.wayOf(6), "/a/a");
    x.be(2);
    refused(x, FLAT, () -> x.makeFile(021));
    refused(x, SHUT, () -> x.makeFile(012));
    refused(x, SHUT, () -> x.makeFile(032));
    // SHUT goes ahead of THERE.
    refused(x, SHUT, () -> x.makeFile(011));
    x.be(0);
    x.rights(01, 1);
    x.be(2);
    // What is WRITTEN there need not be READ.
    due(x.makeFile(012), 7);
    refused(x, SHUT, () -> x.find(012, true));
  }

  private static boolean isAbleByTable(int user, int owner, int rights, boolean isWrite) {
    int[][] kinds = {{0, 1, 2, 2}, {1, 0, 2, 2}, {2, 2, 0, 1}, {2, 2, 1, 0}};
    int[] reads = {32, 8, 2};
    int[] writes = {16, 4, 1};
    int kind = kinds[user][owner];
    return user == 0 || (rights & (isWrite ? writes[kind] : reads[kind])) != 0;
  }

  private static void ableByRights() {
    for (int owner = 0; owner <= 3; owner++) {
      for (int rights = 0; rights <= 63; rights++) {
        Memoryfiles x = made();
        x.be(owner);
        x.makeFile(01);
        x.makeDirectory(02);
        x.rights(01, rights);
        x.rights(02, rights);
        int files = 3;
        for (int user = 0; user <= 3; user++) {
          x.be(user);
          boolean isRead = isAbleByTable(user, owner, rights, false);
          boolean isWrite = isAbleByTable(user, owner, rights, true);
          boolean[] isOpened = {isRead, isWrite, isRead && isWrite, isWrite};
          for (int way = 0; way <= 3; way++) {
            due(x.open(01, way), isOpened[way] ? 0 : SHUT);
            if (isOpened[way]) {
              x.close(0);
            }
          }
          due(x.find(026, true), isRead ? 2 : SHUT);
          due(x.makeSoft(021 + user, 0), isWrite ? files : SHUT);
          files += isWrite ? 1 : 0;
        }
      }
    }
  }

  private static void lastLinkOrHandle() {
    Memoryfiles x = made();
    x.makeFile(01);
    put(x, 01, 0, 16);
    x.link(01, 02);
    due(x.unlink(01), 1);
    due(x.house(5), 62);
    due(x.open(02, 0), 0);
    due(x.open(02, 0), 1);
    due(x.unlink(02), 0);
    due(x.ofFile(1, 4), 0);
    due(x.house(5), 62);
    due(x.close(0), 0);
    due(x.ofFile(1, 7), 1);
    due(x.close(1), 1);
    refused(x, INDEX, () -> x.ofFile(1, 0));
    due(x.house(5), 64);
    due(x.house(4), 1);
    x.makeFile(01);
    put(x, 01, 0, 8);
    due(x.unlink(01), 0);
    refused(x, INDEX, () -> x.ofFile(1, 0));
    due(x.house(5), 64);
  }

  private static void timeOfAFile() {
    Memoryfiles x = made();
    x.tick(1);
    x.makeDirectory(01);
    x.makeFile(02);
    due(x.ofFile(0, 3), 1);
    due(x.ofFile(2, 3), 1);
    x.tick(1);
    put(x, 02, 0, 1);
    due(x.ofFile(2, 3), 2);
    due(x.ofFile(0, 3), 1);
    x.tick(1);
    put(x, 02, 0, 1);
    due(x.ofFile(2, 3), 3);
    x.tick(1);
    x.cut(02, 1);
    due(x.ofFile(2, 3), 3);
    x.cut(02, 2);
    due(x.ofFile(2, 3), 4);
    x.tick(1);
    x.cut(02, 1);
    due(x.ofFile(2, 3), 5);
    x.tick(1);
    // Neither RIGHTS, nor a NAME more, nor what is read counts.
    x.rights(02, 63);
    x.link(02, 011);
    get(x, 02, 0, 1);
    due(x.ofFile(2, 3), 5);
    due(x.ofFile(1, 3), 6);
    due(x.ofFile(0, 3), 1);
    x.tick(1);
    x.unlink(02);
    due(x.ofFile(2, 3), 5);
    due(x.ofFile(0, 3), 7);
    x.tick(1);
    x.makeFile(012);
    x.tick(1);
    // It leads elsewhere in the one, and went in the other.
    x.makeFile(03);
    x.tick(1);
    x.move(03, 011);
    due(x.ofFile(0, 3), 10);
    due(x.ofFile(1, 3), 10);
    x.tick(1);
    x.move(011, 013);
    due(x.ofFile(1, 3), 11);
    due(x.ofFile(0, 3), 10);
    x.tick(1);
    x.makeDirectory(04);
    x.tick(1);
    x.move(01, 041);
    due(x.ofFile(1, 3), 11);
    due(x.ofFile(0, 3), 13);
    due(x.ofFile(2, 3), 13);
    due(x.ofFile(4, 3), 9);
  }

  private static void workGone() {
    Memoryfiles x = made();
    x.makeDirectory(01);
    x.makeDirectory(02);
    x.go(01);
    due(x.unlink(-01), 0);
    due(x.house(1), 0);
    x.makeDirectory(01);
    due(x.house(1), 0);
    x.go(01);
    due(x.move(-01, -03), 0);
    due(x.house(1), 1);
    due(x.move(-02, -03), 1);
    due(x.house(1), 0);
    due(x.find(07, true), 0);
    x.makeDirectory(031);
    x.makeDirectory(0311);
    x.go(0311);
    refused(x, LADEN, () -> x.unlink(-031));
    due(x.removeTree(-03), 3);
    due(x.house(1), 0);
    x.makeDirectory(01);
    x.go(01);
    x.crash(2);
    due(x.unlink(-01), DOWN);
    x.mend();
    due(x.house(1), 0);
    due(x.find(01, true), 1);
  }

  // 2. Bytes and blocks

  private static void sizeFromTo() {
    Memoryfiles x = made();
    x.makeFile(01);
    due(x.ofFile(1, 5), 0);
    due(x.cut(01, 80), 0);
    due(x.ofFile(1, 5), 80);
    due(x.ofFile(1, 6), 0);
    due(x.cut(01, 0), 80);
    int h = x.open(01, 2);
    x.seek(h, 72);
    refused(x, FULL, () -> x.write(h, 1, 9));
    due(x.write(h, 12345678, 8), 80);
    due(x.ofFile(1, 5), 80);
    refused(x, FULL, () -> x.write(h, 1, 1));
    x.seek(h, 79);
    due(x.write(h, 5, 1), 80);
    x.seek(h, 79);
    refused(x, FULL, () -> x.write(h, 1, 2));
    due(x.read(h, 20), "5");
  }

  private static void placesOfBlocks() {
    for (int at = 0; at < 80; at++) {
      Memoryfiles x = made();
      x.makeFile(01);
      put(x, 01, at, at + 1);
      due(x.ofFile(1, 6), 1);
      put(x, 01, at / 8 * 8, at / 8 * 8 + 8);
      due(x.ofFile(1, 6), 1);
      due(x.ofBlock(0, 2), 8);
      if (at >= 8) {
        put(x, 01, at / 8 * 8 - 1, at / 8 * 8);
        due(x.ofFile(1, 6), 2);
      }
    }
  }

  private static void holes() {
    Memoryfiles x = made();
    x.makeFile(01);
    x.cut(01, 30);
    due(get(x, 01, 0, 20), "00000000000000000000");
    due(get(x, 01, 29, 20), "0");
    put(x, 01, 16, 17);
    due(x.ofFile(1, 6), 1);
    due(get(x, 01, 10, 10), "0000001000");
    due(x.house(5), 63);
    x.keep(0);
    due(x.slotByte(0, 01, 15), 0);
    due(x.slotByte(0, 01, 16), 1);
    due(x.slotByte(0, 01, 29), 0);
  }

  private static void behindSize() {
    Memoryfiles x = made();
    x.makeFile(01);
    put(x, 01, 0, 24);
    for (int size = 23; size >= 1; size--) {
      x.cut(01, size);
      due(x.isSound(), true);
      x.cut(01, 24);
      due(get(x, 01, size, 20), "00000000000000000000000".substring(0, Math.min(24 - size, 20)));
      due(get(x, 01, size - 1, 1), "1");
    }
    due(x.ofFile(1, 6), 1);
    x.cut(01, 0);
    due(x.ofFile(1, 6), 0);
  }

  private static void sixtyFourBlocks() {
    Memoryfiles x = made();
    fillBlocks(x, 63);
    due(x.house(5), 1);
    due(x.ofBlock(62, 0), 1);
    due(x.ofBlock(63, 0), 0);
    due(x.ofBlock(63, 1), NONE);
    x.makeFile(01);
    int h = x.open(01, 2);
    x.seek(h, 4);
    refused(x, FULL, () -> x.write(h, 123456789, 5));
    due(x.write(h, 1234, 4), 8);
    due(x.house(5), 0);
    due(x.ofBlock(63, 2), 10);
    refused(x, FULL, () -> x.write(h, 1, 1));
    refused(x, INDEX, () -> x.ofBlock(64, 0));
    x.seek(h, 0);
    due(x.write(h, 99999999, 8), 8);
    due(x.isSound(), true);
    // One that is shared needs a new one, which does not fit.
    due(x.copyTree(01, 02), 1);
    refused(x, FULL, () -> x.cut(01, 7));
    x.cut(01, 0);
    due(x.house(5), 0);
    x.unlink(02);
    due(x.house(5), 1);
  }

  private static void smallestFreeBlock() {
    Memoryfiles x = made();
    fillBlocks(x, 64);
    x.cut(-041, 72);
    x.cut(-052, 0);
    due(x.ofBlock(9, 0), 0);
    due(x.ofBlock(60, 0), 0);
    due(x.house(5), 5);
    x.makeFile(01);
    due(put(x, 01, 0, 40), 40);
    due(x.house(5), 0);
    x.cut(01, 8);
    due(x.house(5), 4);
    due(x.ofBlock(9, 0), 1);
    for (int block = 60; block <= 63; block++) {
      due(x.ofBlock(block, 0), 0);
    }
  }

  private static void userOfABlock() {
    Memoryfiles x = made();
    x.be(1);
    x.makeFile(01);
    x.rights(01, 63);
    x.be(3);
    put(x, 01, 0, 8);
    due(x.ofBlock(0, 1), 1);
    due(x.ofUser(1, false), 1);
    due(x.ofUser(3, false), 0);
    due(x.copyTree(01, 02), 1);
    due(x.ofFile(2, 1), 3);
    due(x.ofBlock(0, 1), 1);
    due(x.ofUser(3, false), 0);
    // The copy's own BLOCK is of its OWNER.
    put(x, 02, 0, 1);
    due(x.ofBlock(1, 1), 3);
    due(x.ofUser(3, false), 1);
    due(x.ofUser(1, false), 1);
    x.be(1);
    x.unlink(01);
    due(x.ofUser(1, false), 0);
    due(x.ofBlock(0, 1), NONE);
  }

  private static void newBlockIsEmpty() {
    Memoryfiles x = made();
    x.makeFile(01);
    put(x, 01, 0, 8);
    due(x.ofBlock(0, 2), 8);
    x.cut(01, 0);
    due(x.ofBlock(0, 2), 0);
    put(x, 01, 3, 4);
    due(x.ofBlock(0, 2), 1);
    due(get(x, 01, 0, 9), "0001");
  }

  private static void quotaReached() {
    for (int quota = 0; quota <= 3; quota++) {
      Memoryfiles x = made();
      x.quota(2, quota);
      x.be(2);
      x.makeFile(01);
      int h = x.open(01, 2);
      for (int i = 0; i < quota; i++) {
        due(x.write(h, 11111111, 8), 8 * i + 8);
      }
      refused(x, FULL, () -> x.write(h, 1, 1));
      due(x.ofUser(2, false), quota);
      // A HOLE needs none, nor do BLOCKS that it has.
      due(x.cut(01, 80), quota * 8);
      x.seek(h, 0);
      due(x.write(h, 22, 2), quota == 0 ? FULL : 2);
      x.be(3);
      x.makeFile(02);
      due(put(x, 02, 0, 1), 1);
    }
  }

  private static void quotaBelowUsed() {
    Memoryfiles x = made();
    x.makeFile(01);
    put(x, 01, 0, 32);
    due(x.quota(0, 2), 64);
    due(x.ofUser(0, true), 2);
    due(x.ofUser(0, false), 4);
    int h = x.open(01, 2);
    due(x.write(h, 77777777, 8), 8);
    x.seek(h, 32);
    refused(x, FULL, () -> x.write(h, 1, 1));
    x.cut(01, 16);
    x.seek(h, 16);
    refused(x, FULL, () -> x.write(h, 1, 1));
    x.cut(01, 8);
    due(x.write(h, 1, 1), 17);
    due(x.quota(0, 0), 2);
    due(x.ofUser(0, false), 2);
    due(x.quota(0, 64), 0);
    x.seek(h, 24);
    due(x.write(h, 1, 1), 25);
  }

  private static void sharedBlockNeedsQuota() {
    Memoryfiles x = made();
    x.makeFile(01);
    put(x, 01, 0, 8);
    x.keep(0);
    x.quota(0, 1);
    int h = x.open(01, 2);
    refused(x, FULL, () -> x.write(h, 1, 1));
    refused(x, FULL, () -> x.cut(01, 7));
    x.quota(0, 2);
    due(x.write(h, 1, 1), 1);
    due(x.ofUser(0, false), 2);
    // It has its own now, and needs no new one.
    due(x.write(h, 1, 1), 2);
  }

  private static void letGo() {
    Memoryfiles x = made();
    x.makeFile(01);
    put(x, 01, 0, 8);
    x.copyTree(01, 02);
    x.keep(0);
    x.keep(1);
    due(x.ofBlock(0, 0), 6);
    x.unlink(01);
    due(x.ofBlock(0, 0), 5);
    due(x.drop(0), 0);
    due(x.ofBlock(0, 0), 3);
    x.cut(02, 0);
    due(x.ofBlock(0, 0), 2);
    due(x.house(5), 63);
    due(x.drop(1), 1);
    due(x.ofBlock(0, 0), 0);
    due(x.ofBlock(0, 1), NONE);
    due(x.house(5), 64);
  }

  private static void writeIntoShared() {
    Memoryfiles x = made();
    x.makeFile(01);
    put(x, 01, 0, 24);
    x.copyTree(01, 02);
    int h = x.open(02, 2);
    x.seek(h, 7);
    // Places 0 and 1 alone: that of place 2 stays shared.
    due(x.write(h, 55, 2), 9);
    due(x.ofBlock(0, 0), 1);
    due(x.ofBlock(1, 0), 1);
    due(x.ofBlock(2, 0), 2);
    due(x.ofBlock(3, 2), 12);
    due(x.ofBlock(4, 2), 12);
    due(get(x, 01, 5, 5), "11111");
    due(get(x, 02, 5, 5), "11551");
    // Also BYTES that are alike.
    x.seek(h, 16);
    due(x.write(h, 1, 1), 17);
    due(x.ofBlock(2, 0), 1);
    due(x.ofBlock(5, 2), 8);
    due(x.compare(01, 02), 0);
    due(x.isSound(), true);
  }

  private static void fullChangesNothing() {
    Memoryfiles x = made();
    x.makeFile(01);
    int h = x.open(01, 2);
    x.quota(0, 1);
    x.seek(h, 6);
    x.tick(9);
    x.watch(0);
    refused(x, FULL, () -> x.write(h, 123, 3));
    due(x.heard(), "");
    due(x.house(5), 64);
    due(x.write(h, 12, 2), 8);
    x.copyTree(01, 02);
    x.quota(0, 2);
    x.seek(h, 7);
    refused(x, FULL, () -> x.write(h, 34, 2));
    due(get(x, 01, 0, 9), "00000012");
  }

  private static void sizeAfterWriting() {
    Memoryfiles x = made();
    x.makeFile(01);
    put(x, 01, 0, 20);
    put(x, 01, 0, 8);
    due(x.ofFile(1, 5), 20);
    put(x, 01, 12, 20);
    due(x.ofFile(1, 5), 20);
    put(x, 01, 13, 21);
    due(x.ofFile(1, 5), 21);
    put(x, 01, 60, 61);
    due(x.ofFile(1, 5), 61);
    due(x.ofFile(1, 6), 4);
  }

  // 3. Handles and locks

  private static void sixHandles() {
    Memoryfiles x = made();
    x.makeFile(01);
    for (int h = 0; h <= 5; h++) {
      due(x.ofHandle(h, 0), NONE);
    }
    for (int h = 0; h <= 5; h++) {
      due(x.open(01, h % 4), h);
      due(x.ofHandle(h, 0), 1);
      due(x.ofHandle(h, 1), h % 4);
      due(x.ofHandle(h, 2), 0);
    }
    refused(x, FULL, () -> x.open(01, 0));
    refused(x, INDEX, () -> x.close(6));
    refused(x, INDEX, () -> x.close(-1));
    refused(x, INDEX, () -> x.ofHandle(6, 0));
    due(x.house(6), 6);
    due(x.ofFile(1, 7), 6);
    x.close(4);
    x.close(2);
    due(x.open(01, 1), 2);
    due(x.open(01, 0), 4);
    refused(x, FULL, () -> x.open(01, 0));
  }

  private static void placeFromToEighty() {
    Memoryfiles x = made();
    x.makeFile(01);
    x.open(01, 2);
    due(x.seek(0, 80), 0);
    refused(x, ARGUMENT, () -> x.seek(0, 81));
    refused(x, ARGUMENT, () -> x.seek(0, -1));
    refused(x, FULL, () -> x.write(0, 1, 1));
    due(x.read(0, 1), "");
    due(x.ofHandle(0, 2), 80);
    due(x.seek(0, 79), 80);
    due(x.write(0, 1, 1), 80);
    due(x.seek(0, 0), 80);
  }

  private static void fourLocks() {
    Memoryfiles x = made();
    x.makeFile(01);
    x.open(01, 2);
    x.open(01, 2);
    x.lock(1, 79, 80, true);
    for (int i = 0; i < 3; i++) {
      due(x.lock(0, 0, 8, i == 1), i + 1);
    }
    due(x.lock(0, 79, 80, false), HELD);
    due(x.lock(0, 3, 4, true), 4);
    due(x.ofHandle(0, 4), 0);
    refused(x, FULL, () -> x.lock(0, 20, 21, true));
    due(x.lock(0, 78, 80, false), HELD);
    due(x.ofHandle(0, 4), 1);
    // It WAITS then as it did.
    refused(x, FULL, () -> x.lock(0, 20, 21, false));
    due(x.ofHandle(0, 3), 4);
    due(x.lock(1, 20, 21, true), 2);
    due(x.unlock(0), 4);
    due(x.ofHandle(0, 3), 0);
    due(x.ofHandle(0, 4), 0);
    due(x.lock(0, 0, 8, true), 1);
  }

  private static void locksThatMeet() {
    for (int from = 0; from < 20; from++) {
      for (int to = from + 1; to <= 20; to++) {
        Memoryfiles x = made();
        x.makeFile(01);
        x.makeFile(02);
        x.open(01, 2);
        x.open(01, 2);
        x.open(02, 2);
        x.lock(0, 8, 12, true);
        boolean isMeeting = from < 12 && to > 8;
        due(x.lock(1, from, to, false), isMeeting ? HELD : 1);
        x.unlock(1);
        due(x.lock(1, from, to, true), isMeeting ? HELD : 1);
        x.unlock(1);
        due(x.lock(2, from, to, true), 1);
        due(x.lock(0, from, to, true), 2);
        x.unlock(0);
        x.lock(0, 8, 12, false);
        due(x.lock(1, from, to, true), isMeeting ? HELD : 1);
        x.unlock(1);
        due(x.lock(1, from, to, false), 1);
      }
    }
  }

  private static void waitsTillNext() {
    Memoryfiles x = made();
    x.makeFile(01);
    x.open(01, 2);
    x.open(01, 2);
    x.lock(0, 0, 1, true);
    due(x.ofHandle(1, 4), 0);
    due(x.lock(1, 0, 1, true), HELD);
    due(x.ofHandle(1, 4), 1);
    x.seek(1, 5);
    x.write(1, 1, 1);
    due(x.ofHandle(1, 4), 1);
    x.unlock(0);
    due(x.ofHandle(1, 4), 1);
    due(x.lock(1, 0, 1, true), 1);
    due(x.ofHandle(1, 4), 0);
    due(x.lock(0, 0, 1, true), HELD);
    due(x.unlock(0), 0);
    due(x.ofHandle(0, 4), 0);
    due(x.lock(0, 0, 1, true), HELD);
    x.close(1);
    due(x.ofHandle(0, 4), 1);
    x.close(0);
    due(x.open(01, 2), 0);
    due(x.ofHandle(0, 4), 0);
    due(x.ofHandle(0, 3), 0);
  }

  private static void waitsForNoneElse() {
    Memoryfiles x = made();
    x.makeFile(01);
    for (int h = 0; h < 3; h++) {
      x.open(01, 2);
      x.lock(h, h, h + 1, true);
    }
    x.lock(1, 0, 1, true);
    x.lock(0, 1, 2, true);
    due(x.ofHandle(0, 5), 1);
    due(x.ofHandle(1, 5), 1);
    due(x.lock(0, 2, 3, true), HELD);
    due(x.ofHandle(0, 5), 0);
    due(x.ofHandle(1, 5), 0);
    due(x.lock(0, 1, 3, false), HELD);
    due(x.ofHandle(0, 5), 1);
    due(x.ofHandle(2, 5), 0);
  }

  private static void waitsForWhatMeets() {
    for (int kind = 0; kind < 4; kind++) {
      boolean isHadAlone = kind / 2 == 1;
      boolean isAskedAlone = kind % 2 == 1;
      Memoryfiles x = made();
      x.makeFile(01);
      x.open(01, 2);
      x.open(01, 2);
      x.lock(0, 0, 1, false);
      x.lock(1, 5, 7, true);
      due(x.lock(0, 6, 9, isAskedAlone), HELD);
      due(x.unlock(1), 1);
      // It WAITS still, but for no other HANDLE, till that has one anew that MEETS its LOCK.
      due(x.lock(1, 5, 7, isHadAlone), 1);
      due(x.lock(1, 0, 1, true), HELD);
      due(x.ofHandle(0, 4), 1);
      due(x.ofHandle(0, 5), isHadAlone || isAskedAlone ? 1 : 0);
      due(x.ofHandle(1, 5), isHadAlone || isAskedAlone ? 1 : 0);
      x.unlock(1);
      x.lock(1, 5, 6, true);
      due(x.lock(1, 0, 1, true), HELD);
      due(x.ofHandle(0, 5), 0);
      x.lock(1, 8, 9, true);
      due(x.lock(1, 0, 1, true), HELD);
      due(x.ofHandle(0, 5), 1);
    }
  }

  private static void rings() {
    for (int many = 2; many <= 6; many++) {
      Memoryfiles x = made();
      x.makeFile(01);
      for (int h = 0; h < 6; h++) {
        x.open(01, 2);
        x.lock(h, h, h + 1, true);
      }
      for (int h = 0; h < many - 1; h++) {
        due(x.lock(h, h + 1, h + 2, true), HELD);
        due(x.ofHandle(h, 5), 0);
      }
      for (int h = many; h < 6; h++) {
        due(x.lock(h, 0, 1, true), HELD);
      }
      due(x.ofHandle(0, 5), 0);
      due(x.lock(many - 1, 0, 1, true), HELD);
      for (int h = 0; h < 6; h++) {
        // Those behind the ring WAIT for one in it, but do not come back to themselves.
        due(x.ofHandle(h, 4), 1);
        due(x.ofHandle(h, 5), h < many ? 1 : 0);
      }
      x.unlock(many - 1);
      for (int h = 0; h < 6; h++) {
        due(x.ofHandle(h, 5), 0);
      }
    }
  }

  /** Each HANDLE WAITS for the one below it, or for one that is chosen: the longest rings, whatever their order. */
  private static void ringsOfSix() {
    int[][] orders = {{5, 4, 3, 2, 1, 0}, {0, 1, 2, 3, 4, 5}, {3, 0, 5, 1, 4, 2}, {2, 5, 1, 3, 0, 4}};
    for (int[] order : orders) {
      Memoryfiles x = made();
      x.makeFile(01);
      for (int h = 0; h < 6; h++) {
        x.open(01, 2);
        x.lock(h, h, h + 1, true);
      }
      for (int i = 0; i < 6; i++) {
        due(x.ofHandle(order[0], 5), 0);
        int next = order[(i + 1) % 6];
        due(x.lock(order[i], next, next + 1, true), HELD);
      }
      for (int h = 0; h < 6; h++) {
        due(x.ofHandle(h, 5), 1);
      }
      x.close(order[3]);
      for (int h = 0; h < 6; h++) {
        due(x.ofHandle(h, 5), h == order[3] ? NONE : 0);
      }
    }
  }

  // 4. The journal

  /** A machine with something of all: LOST is 6, 7 has no LINKS but the HANDLE 1, the SLOT 0 has all but that. */
  private static Memoryfiles busy() {
    Memoryfiles x = made();
    x.makeDirectory(01);
    x.makeFile(011);
    x.makeFile(02);
    put(x, 02, 0, 16);
    x.link(011, 03);
    x.makeSoft(04, 02);
    x.makeDirectory(012);
    x.makeFile(05);
    put(x, 05, 0, 8);
    x.open(05, 0);
    x.unlink(05);
    x.crash(0);
    x.mend();
    x.keep(0);
    x.open(02, 2);
    x.makeFile(05);
    put(x, 05, 0, 8);
    x.open(05, 2);
    x.unlink(05);
    x.tick(1);
    return x;
  }

  private static final int MARKED = 26;

  /** One of the calls that are marked *, each with a change on a busy machine. */
  private static int marked(Memoryfiles x, int which) {
    switch (which) {
      case 0: return x.makeDirectory(05);
      case 1: return x.makeFile(015);
      case 2: return x.makeSoft(05, 01);
      case 3: return x.link(02, 05);
      case 4: return x.unlink(03);
      case 5: return x.unlink(012);
      case 6: return x.unlink(02);
      case 7: return x.move(02, 05);
      case 8: return x.move(02, 013);
      case 9: return x.move(012, 05);
      case 10: return x.move(04, 03);
      case 11: return x.rights(01, 7);
      case 12: return x.quota(2, 5);
      case 13: return x.cut(02, 3);
      case 14: return x.cut(02, 80);
      case 15: return x.close(1);
      case 16: return x.write(0, 4, 1);
      case 17: return x.keep(1);
      case 18: return x.keep(0);
      case 19: return x.drop(0);
      case 20: return x.copyTree(01, 05);
      case 21: return x.copyTree(02, 05);
      case 22: return x.removeTree(01);
      case 23: return x.removeTree(04);
      case 24: return x.adopt(6, 05);
      default: return x.purge();
    }
  }

  /** What is another THING by each of those calls: FILES, BLOCKS, SLOTS, QUOTAS; and a BEGIN and an END. */
  private static final int[] RECORDS = {
    2 + 2, // 0 and the new one
    2 + 2, // 1 and the new one
    2 + 2,
    2 + 2, // 0 and what has a LINK more
    2 + 2, // 0 and what has a LINK less
    2 + 2, // 1 and what is GONE
    2 + 2, // 0 and what is open still
    2 + 1, // 0 alone
    2 + 2, // 0 and 1
    2 + 3, // 0, 1, and in which DIRECTORY it is
    2 + 2, // 0 and what has a LINK less
    2 + 1,
    2 + 1,
    2 + 1 + 3, // its BLOCK is another, both old ones have a COUNT less
    2 + 1, // a HOLE
    2 + 1 + 1, // what is GONE with its BLOCK
    2 + 1 + 2, // its BLOCK is another, the old one has a COUNT less
    2 + 4 + 1, // the SLOT, and each BLOCK has a COUNT more
    2 + 1 + 1, // the SLOT, and the BLOCK of 7
    2 + 3 + 1, // the SLOT, and its three BLOCKS
    2 + 4, // 0 and three new ones
    2 + 2 + 2, // 0, the new one, its two BLOCKS
    2 + 4, // 0, 1, 2, 5
    2 + 2, // 0, 4
    2 + 2, // 0, 6
    2 + 1 + 1, // 6 and its BLOCK
  };

  private static void eachOtherThing() {
    for (int which = 0; which < MARKED; which++) {
      Memoryfiles x = busy();
      x.flush();
      int before = x.house(11);
      due(marked(x, which) >= 0, true);
      due(x.house(7), RECORDS[which]);
      due(x.house(8), RECORDS[which] - 2);
      due(x.house(11) - before, RECORDS[which]);
      due(x.isSound(), true);
    }
  }

  /** A BLOCK that is let go and given out again with the same BYTES, but another USER. */
  private static void userCounts() {
    Memoryfiles x = made();
    x.makeFile(01);
    int h = x.open(01, 1);
    x.write(h, 11112222, 8);
    x.write(h, 11110000, 8);
    x.rights(0, 63);
    x.be(1);
    due(x.copyTree(01, 02), 1);
    x.be(0);
    x.cut(01, 8);
    x.flush();
    due(x.ofBlock(1, 1), 0);
    due(x.ofBlock(1, 2), 4);
    // The second BLOCK is let go, and is that of the first place then: USER 1, as OWNER of the FILE.
    x.be(1);
    due(x.cut(02, 4), 16);
    due(x.ofBlock(1, 0), 1);
    due(x.ofBlock(1, 1), 1);
    due(x.ofBlock(1, 2), 4);
    due(x.house(7), 2 + 3);
    due(x.isSound(), true);
    x.crash(0);
    x.mend();
    due(x.ofBlock(1, 1), 1);
    due(x.ofUser(0, false), 1);
    due(x.ofUser(1, false), 1);
  }

  private static void noneIsAnother() {
    Memoryfiles x = busy();
    int writes = x.house(11);
    int records = x.house(7);
    int dirty = x.house(8);
    x.watch(0);
    due(x.rights(02, 58), 58);
    due(x.quota(2, 64), 64);
    due(x.cut(02, 16), 16);
    due(x.move(02, 02), 0);
    due(x.move(011, 03), 0);
    due(x.drop(1), 0);
    x.open(02, 0);
    due(x.close(2), 0);
    due(x.house(11), writes);
    due(x.house(7), records);
    due(x.house(8), dirty);
    x.purge();
    x.keep(0);
    x.write(0, 11, 2);
    x.heard();
    writes = x.house(11);
    due(x.purge(), 0);
    due(x.keep(0) >= 0, true);
    due(x.house(11) > writes, true);
    writes = x.house(11);
    due(x.keep(0) >= 0, true);
    due(x.house(11), writes);
    due(x.heard(), "");
    // The first one needs a BLOCK of its own, the second one only TIME.
    x.tick(1);
    x.seek(0, 0);
    x.write(0, 11, 2);
    writes = x.house(11);
    x.seek(0, 0);
    x.write(0, 11, 2);
    due(x.house(11), writes);
    x.tick(1);
    x.seek(0, 0);
    x.write(0, 11, 2);
    due(x.house(11), writes + 3);
  }

  /** Quotas of 3 RECORDS each, and so many new FILES of 4 each. */
  private static Memoryfiles withRecords(int quotas, int files) {
    Memoryfiles x = made();
    for (int i = 0; i < quotas; i++) {
      x.quota(3, i);
    }
    for (int i = 1; i <= files; i++) {
      x.makeFile(i);
    }
    return x;
  }

  private static void hundredAndSixty() {
    Memoryfiles x = withRecords(51, 1);
    due(x.house(7), 157);
    due(x.quota(2, 1), 64);
    due(x.house(7), 160);
    due(x.house(11), 160);
    due(x.house(8), 4);
    // The four DIRTY ones, the emptying, and three RECORDS.
    due(x.quota(1, 1), 64);
    due(x.house(7), 3);
    due(x.house(11), 160 + 4 + 1 + 3);
    due(x.house(8), 1);
    Memoryfiles y = withRecords(50, 2);
    due(y.house(7), 158);
    due(y.quota(2, 1), 64);
    due(y.house(7), 3);
    due(y.house(11), 158 + 4 + 1 + 3);
    Memoryfiles z = withRecords(52, 0);
    due(z.house(7), 156);
    due(z.makeFile(1), 1);
    due(z.house(7), 160);
    // What changes nothing passes nothing.
    due(z.quota(3, 51), 51);
    refused(z, THERE, () -> z.makeFile(1));
    due(z.house(7), 160);
    Memoryfiles w = withRecords(53, 0);
    due(w.house(7), 159);
    due(w.makeFile(1), 1);
    due(w.house(7), 4);
    due(w.house(11), 159 + 1 + 1 + 4);
  }

  private static void crashInThePassing() {
    // 158 RECORDS, four DIRTY THINGS: WRITES 1 to 4 put BACK, 5 empties, 6 to 8 are RECORDS.
    for (int writes = 1; writes <= 9; writes++) {
      Memoryfiles x = withRecords(50, 2);
      x.crash(writes);
      due(x.quota(2, 1), writes <= 8 ? DOWN : 64);
      due(x.house(11), 158 + Math.min(writes, 8));
      due(x.house(7), writes < 5 ? 158 : writes < 8 ? 0 : 3);
      due(x.house(10), writes <= 8 ? 1 : 0);
      if (writes == 9) {
        due(x.house(9), 1);
        x.crash(0);
      }
      due(x.mend(), writes < 5 ? 52 : writes < 8 ? 0 : 1);
      due(x.ofUser(2, true), writes < 8 ? 64 : 1);
      due(x.ofUser(3, true), 49);
      due(x.list(0, 1), "ab");
      due(x.isSound(), true);
    }
  }

  /** The digests of a mended machine, with no WRITE more, one more (by a FLUSH of nothing), two, and so on. */
  private static long[] digestsByWrites(Memoryfiles x, int many) {
    long[] all = new long[many + 1];
    for (int i = 0; i <= many; i++) {
      all[i] = x.digest();
      x.flush();
    }
    return all;
  }

  private static void crashBehindEachWrite() {
    for (int which = 0; which < MARKED; which++) {
      Memoryfiles ahead = busy();
      ahead.crash(0);
      int calls = ahead.mend();
      long[] undone = digestsByWrites(ahead, RECORDS[which]);
      Memoryfiles behind = busy();
      int answer = marked(behind, which);
      behind.crash(0);
      due(behind.mend(), calls + 1);
      long done = behind.digest();
      due(undone[RECORDS[which]] == done, false);
      for (int writes = 1; writes <= RECORDS[which] + 1; writes++) {
        Memoryfiles x = busy();
        int records = x.house(7);
        int before = x.house(11);
        x.crash(writes);
        boolean isEnded = writes >= RECORDS[which];
        due(marked(x, which), writes <= RECORDS[which] ? DOWN : answer);
        due(x.house(10), writes <= RECORDS[which] ? 1 : 0);
        due(x.house(7), records + (isEnded ? RECORDS[which] : 0));
        due(x.house(11), before + Math.min(writes, RECORDS[which]));
        if (writes > RECORDS[which]) {
          due(x.house(9), 1);
          x.crash(0);
        }
        due(x.mend(), calls + (isEnded ? 1 : 0));
        due(x.digest(), isEnded ? done : undone[writes]);
        due(x.isSound(), true);
      }
    }
  }

  private static void flushBehindEachWrite() {
    int dirty = busy().house(8);
    Memoryfiles same = busy();
    same.crash(0);
    int calls = same.mend();
    long[] digests = digestsByWrites(same, dirty + 1);
    for (int writes = 1; writes <= dirty + 2; writes++) {
      Memoryfiles x = busy();
      int records = x.house(7);
      int before = x.house(11);
      x.crash(writes);
      boolean isDown = writes <= dirty + 1;
      due(x.flush(), isDown ? DOWN : records);
      due(x.house(11), before + Math.min(writes, dirty + 1));
      due(x.house(7), writes <= dirty ? records : 0);
      due(x.house(8), 0);
      due(x.house(9), isDown ? NONE : 1);
      if (!isDown) {
        x.crash(0);
      }
      due(x.mend(), writes <= dirty ? calls : 0);
      due(x.digest(), digests[Math.min(writes, dirty + 1)]);
    }
  }

  private static void nothingIsDirty() {
    Memoryfiles x = made();
    due(x.flush(), 0);
    due(x.house(11), 1);
    x.makeFile(01);
    due(x.back(1), 1);
    due(x.back(0), 0);
    due(x.house(7), 4);
    due(x.flush(), 4);
    due(x.house(11), 1 + 4 + 2 + 1);
    due(x.flush(), 0);
    due(x.house(11), 9);
    x.crash(1);
    due(x.flush(), DOWN);
    due(x.house(11), 10);
    due(x.mend(), 0);
    due(x.find(01, true), 1);
  }

  /** Changes one of eight THINGS alone, in their order: two each of FILES, BLOCKS, SLOTS, QUOTAS. */
  private static void changeOne(Memoryfiles x, int which) {
    switch (which) {
      case 0: x.rights(0, 62); break;
      case 1: x.rights(01, 1); break;
      case 2: case 3:
        x.seek(0, which == 2 ? 0 : 8);
        x.write(0, 2, 1);
        break;
      case 4: case 5: x.drop(which - 4); break;
      case 6: x.quota(0, 8); break;
      default: x.quota(3, 8);
    }
  }

  private static void orderOfThings() {
    for (int nth = 0; nth < 8; nth++) {
      for (int which = 0; which < 8; which++) {
        Memoryfiles x = made();
        x.quota(3, 9);
        x.keep(1);
        x.makeFile(01);
        x.keep(0);
        put(x, 01, 0, 16);
        x.open(01, 1);
        x.quota(0, 9);
        due(x.house(8), 8);
        due(x.back(nth), 7);
        changeOne(x, which);
        due(x.house(8), which == nth ? 8 : 7);
        due(x.isSound(), true);
      }
    }
  }

  private static void tornCallIsNotDirty() {
    Memoryfiles x = made();
    x.makeFile(01);
    x.flush();
    x.crash(4);
    due(x.makeFile(02), DOWN);
    due(x.house(8), 0);
    due(x.mend(), 1);
    due(x.house(8), 0);
    due(x.house(7), 0);
    due(x.list(0, 1), "ab");
  }

  private static void crashAtOnce() {
    Memoryfiles x = busy();
    due(x.crash(7), 0);
    due(x.house(9), 7);
    due(x.crash(500), 0);
    due(x.house(9), 500);
    refused(x, ARGUMENT, () -> x.crash(501));
    refused(x, ARGUMENT, () -> x.crash(-1));
    int writes = x.house(11);
    int records = x.house(7);
    due(x.crash(0), DOWN);
    due(x.house(10), 1);
    due(x.house(11), writes);
    due(x.house(7), records);
    due(x.house(9), NONE);
  }

  private static void crashBehindFiveHundred() {
    Memoryfiles x = made();
    x.crash(500);
    for (int i = 1; i < 500; i++) {
      due(x.flush(), 0);
    }
    due(x.house(9), 1);
    due(x.flush(), DOWN);
    due(x.house(11), 500);
    due(x.house(10), 1);
  }

  private static void crashBehindOne() {
    Memoryfiles x = made();
    due(x.crash(1), 0);
    due(x.tick(1), 1);
    due(x.house(10), 0);
    due(x.makeFile(01), DOWN);
    due(x.house(11), 1);
    due(x.house(7), 0);
    due(x.mend(), 0);
    due(x.crash(2), 0);
    due(x.crash(0), DOWN);
    due(x.house(7), 0);
    due(x.mend(), 0);
    // The one that was told is not any more.
    due(x.house(9), NONE);
    due(x.makeFile(01), 1);
    due(x.house(10), 0);
  }

  private static void lostByACrash() {
    Memoryfiles x = busy();
    x.be(0);
    due(x.go(01), 1);
    due(x.watch(-06), 0);
    x.makeFile(-05);
    x.seek(0, 0);
    x.read(0, 3);
    x.seek(0, 0);
    x.read(0, 3);
    x.lock(0, 0, 3, true);
    x.harm(false, 1);
    x.harm(true, 0);
    x.tick(4);
    x.knock();
    x.crash(9);
    x.be(3);
    int[] before = new int[18];
    for (int what = 0; what <= 17; what++) {
      before[what] = x.house(what);
    }
    x.crash(0);
    for (int what = 0; what <= 17; what++) {
      boolean isKept = what == 2 || what == 7 || what == 11 || what == 12 || what == 13 || what == 17;
      due(x.house(what), isKept ? before[what] : what == 3 || what == 9 ? NONE : what == 10 ? 1 : 0);
    }
    x.mend();
    int[] want = before.clone();
    want[0] = 0;
    want[1] = 0;
    want[3] = NONE;
    want[6] = 0;
    want[7] = 0;
    want[8] = 0;
    want[9] = NONE;
    want[16] = 2;
    for (int what = 0; what <= 17; what++) {
      due(x.house(what), want[what]);
    }
    due(x.heard(), "");
    due(x.check(), "");
    due(x.ofHandle(0, 0), NONE);
    due(x.ofBlock(0, 3), 0);
    due(x.open(02, 2), 0);
    due(x.ofHandle(0, 3), 0);
    x.read(0, 1);
    due(x.house(13), before[13] + 1);
    x.crash(0);
    due(x.mend(), 0);
  }

  private static void lostFiles() {
    Memoryfiles x = busy();
    due(x.ofFile(6, 8), 1);
    due(x.ofFile(7, 4), 0);
    due(x.ofFile(7, 8), 0);
    due(x.house(16), 1);
    refused(x, INDEX, () -> x.adopt(7, 05));
    x.crash(0);
    x.mend();
    due(x.ofFile(7, 8), 1);
    due(x.house(16), 2);
    due(x.wayOf(7), "?7");
    due(x.ofFile(7, 6), 1);
    x.crash(0);
    x.mend();
    due(x.house(16), 2);
    due(x.adopt(7, 05), 7);
    due(x.ofFile(7, 8), 0);
    due(x.open(05, 0), 0);
    x.unlink(05);
    due(x.ofFile(7, 8), 0);
    due(x.purge(), 1);
    due(x.ofFile(7, 7), 1);
    due(x.close(0), 1);
    due(x.house(16), 0);
  }

  private static void adoptionTorn() {
    Memoryfiles x = busy();
    x.crash(3);
    due(x.adopt(6, 05), DOWN);
    x.mend();
    due(x.ofFile(6, 8), 1);
    due(x.adopt(6, 05), 6);
    x.crash(0);
    x.mend();
    due(x.ofFile(6, 8), 0);
    due(x.find(05, true), 6);
  }

  // 5. Slots, cache, watching, faults

  private static void emptySlot() {
    Memoryfiles x = made();
    for (int i = 0; i <= 1; i++) {
      int slot = i;
      refused(x, NO, () -> x.slotByte(slot, 0, 0));
      refused(x, NO, () -> x.slotByte(slot, 01, 79));
      refused(x, 0, () -> x.drop(slot));
      due(x.house(14 + slot), 0);
      due(x.keep(slot), 1);
      due(x.house(14 + slot), 1);
      refused(x, TREE, () -> x.slotByte(slot, 0, 0));
      due(x.drop(slot), 0);
      refused(x, NO, () -> x.slotByte(slot, 0, 0));
    }
    refused(x, INDEX, () -> x.keep(2));
    refused(x, INDEX, () -> x.keep(-1));
    refused(x, INDEX, () -> x.drop(2));
    refused(x, INDEX, () -> x.slotByte(-1, 0, 0));
  }

  private static void slotAsItWas() {
    Memoryfiles x = busy();
    due(x.house(14), 7);
    due(x.keep(1), 8);
    x.rights(02, 0);
    x.unlink(02);
    x.close(0);
    x.removeTree(01);
    due(x.house(14), 7);
    due(x.house(15), 8);
    due(x.slotByte(0, 02, 15), 1);
    due(x.slotByte(0, 04, 0), 1);
    due(x.slotByte(0, 012, 0), TREE);
    due(x.slotByte(0, 03, 0), NONE);
    due(x.ofUser(0, false), 4);
    due(x.find(02, true), NO);
    // What is kept anew lets go what the SLOT had.
    due(x.keep(0), x.house(4));
    due(x.slotByte(0, 02, 15), NO);
    due(x.slotByte(1, 02, 15), 1);
    due(x.ofUser(0, false), 4);
    due(x.drop(1), 2);
    due(x.ofUser(0, false), 2);
  }

  private static void cacheOfFour() {
    Memoryfiles x = made();
    x.makeFile(01);
    put(x, 01, 0, 80);
    x.open(01, 0);
    int[] places = {0, 1, 2, 3};
    for (int place : places) {
      x.seek(0, place * 8);
      x.read(0, 8);
    }
    due(x.house(13), 4);
    due(x.house(12), 0);
    x.seek(0, 0);
    x.read(0, 1);
    due(x.house(12), 1);
    x.seek(0, 32);
    x.read(0, 1);
    due(x.house(13), 5);
    int[] want = {1, 0, 1, 1, 1, 0, 0, 0, 0, 0};
    for (int block = 0; block < 10; block++) {
      due(x.ofBlock(block, 3), want[block]);
    }
    // Four others push all out.
    x.seek(0, 48);
    x.read(0, 20);
    x.seek(0, 72);
    x.read(0, 20);
    due(x.house(13), 9);
    for (int block = 0; block < 10; block++) {
      due(x.ofBlock(block, 3), block >= 6 ? 1 : 0);
    }
    x.seek(0, 0);
    x.read(0, 1);
    due(x.house(12), 1);
    due(x.house(13), 10);
  }

  private static void touchedOnceForEachCall() {
    Memoryfiles x = made();
    x.makeFile(01);
    put(x, 01, 0, 8);
    put(x, 01, 16, 30);
    x.open(01, 0);
    due(x.read(0, 20), "11111111000000001111");
    due(x.house(13), 2);
    due(x.house(12), 0);
    due(x.read(0, 20), "1111111111");
    due(x.house(12), 1);
    due(x.house(13), 3);
    due(x.read(0, 20), "");
    due(x.house(12) + x.house(13), 4);
    x.seek(0, 8);
    due(x.read(0, 8), "00000000");
    due(x.house(12) + x.house(13), 4);
    x.seek(0, 7);
    due(x.read(0, 10), "1000000001");
    due(x.house(12), 3);
    // What is WRITTEN, or asked of a SLOT, is not touched by read().
    x.keep(0);
    x.slotByte(0, 01, 0);
    x.compare(01, 01);
    put(x, 01, 40, 41);
    due(x.house(12) + x.house(13), 6);
    due(x.ofBlock(3, 3), 0);
  }

  private static void byTheirNumbers() {
    Memoryfiles x = made();
    x.makeFile(01);
    x.makeFile(02);
    put(x, 01, 0, 8);
    get(x, 01, 0, 1);
    x.cut(01, 0);
    due(x.ofBlock(0, 0), 0);
    due(x.ofBlock(0, 3), 1);
    put(x, 02, 0, 8);
    due(x.ofBlock(0, 0), 1);
    get(x, 02, 0, 1);
    due(x.house(12), 1);
    due(x.house(13), 1);
  }

  private static void signsOfAWatch() {
    Memoryfiles x = made();
    x.makeDirectory(01);
    x.makeFile(013);
    x.makeFile(014);
    x.makeDirectory(015);
    due(x.watch(01), 1);
    due(x.heard(), "");
    x.makeFile(011);
    due(x.heard(), "+a");
    x.unlink(011);
    due(x.heard(), "-a");
    x.move(013, 014);
    due(x.heard(), "-c *d");
    x.move(014, 013);
    due(x.heard(), "+c -d");
    x.move(013, 013);
    due(x.heard(), "");
    x.rights(013, 1);
    due(x.heard(), "~c");
    x.rights(013, 1);
    due(x.heard(), "");
    x.link(013, 014);
    due(x.heard(), "~c +d");
    x.link(013, 03);
    due(x.heard(), "~c ~d");
    x.makeFile(0151);
    due(x.heard(), "~e");
    x.makeDirectory(0152);
    x.makeFile(01521);
    due(x.heard(), "~e");
    x.tick(1);
    put(x, 013, 0, 1);
    due(x.heard(), "~c ~d");
    int h = x.open(013, 1);
    x.write(h, 9, 1);
    due(x.heard(), "");
    x.rights(01, 60);
    x.quota(1, 1);
    x.keep(0);
    x.makeDirectory(04);
    due(x.heard(), "");
    refused(x, NO, () -> x.unlink(012));
    x.crash(3);
    due(x.unlink(013), DOWN);
    x.mend();
    due(x.heard(), "");
    x.watch(01);
    x.removeTree(015);
    x.unlink(03);
    due(x.heard(), "-e ~c ~d");
  }

  private static void twentyWords() {
    Memoryfiles x = made();
    x.watch(0);
    for (int i = 0; i < 19; i++) {
      due(i % 2 == 0 ? x.makeFile(02) : x.unlink(02), i % 2 == 0 ? 1 : 0);
    }
    // The twentieth is kept, the one behind it is not.
    x.move(02, 03);
    String ten = "+b -b +b -b +b -b +b -b +b -b";
    due(x.heard(), ten + " +b -b +b -b +b -b +b -b +b -b");
    due(x.heard(), "");
    x.move(03, 04);
    due(x.heard(), "-c +d");
    for (int i = 0; i < 30; i++) {
      x.rights(04, i);
    }
    due(x.heard().length(), 59);
    due(x.house(3), 0);
    for (int i = 0; i < 30; i++) {
      x.rights(04, i);
    }
    x.watch(0);
    x.unlink(04);
    due(x.heard(), "-d");
  }

  private static void watchedIsGone() {
    Memoryfiles x = made();
    x.makeDirectory(01);
    x.makeFile(011);
    x.makeDirectory(012);
    x.watch(01);
    x.unlink(012);
    due(x.removeTree(01), 2);
    due(x.house(3), NONE);
    x.makeDirectory(01);
    x.makeFile(013);
    due(x.house(3), NONE);
    due(x.heard(), "-b -a");
    due(x.heard(), "");
    x.watch(01);
    x.unlink(013);
    x.makeDirectory(02);
    // A DIRECTORY that goes by another that takes its NAME.
    due(x.move(02, 01), 1);
    due(x.house(3), NONE);
    x.watch(01);
    due(x.heard(), "");
    x.makeFile(014);
    x.crash(0);
    x.mend();
    due(x.heard(), "");
    x.watch(01);
    x.crash(3);
    due(x.removeTree(01), DOWN);
    x.mend();
    due(x.house(3), NONE);
    due(x.list(01, 1), "d");
  }

  private static void watchedMoves() {
    Memoryfiles x = made();
    x.makeDirectory(01);
    x.makeDirectory(02);
    x.watch(01);
    x.move(01, 021);
    due(x.house(3), 1);
    x.makeFile(0215);
    due(x.heard(), "+e");
    x.unlink(0215);
    x.unlink(021);
    due(x.heard(), "-e");
    due(x.house(3), NONE);
  }

  private static void harmTillRepair() {
    Memoryfiles x = busy();
    due(x.harm(false, 3), 2);
    due(x.harm(false, 3), 3);
    due(x.harm(true, 0), 3);
    due(x.harm(true, 0), 4);
    due(x.ofFile(3, 4), 3);
    due(x.ofBlock(0, 0), 4);
    // No other call looks at it.
    due(x.isSound(), true);
    due(x.link(02, 05), 2);
    due(x.unlink(05), 1);
    due(x.house(16), 1);
    due(x.ofUser(0, false), 4);
    due(x.check(), "L/b B0:/b");
    due(x.repair(), 2);
    due(x.ofFile(3, 4), 1);
    due(x.ofBlock(0, 0), 2);
    due(x.repair(), 0);
    due(x.check(), "");
    x.harm(false, 0);
    x.crash(0);
    x.mend();
    due(x.ofFile(0, 4), 1);
    due(x.check(), "");
  }

  private static void harmOfWhatIsGone() {
    Memoryfiles x = busy();
    x.harm(false, 7);
    x.harm(false, 6);
    x.harm(true, 3);
    x.harm(true, 2);
    due(x.check(), "L?6 L?7 B2:?6 B3:?7");
    x.close(1);
    due(x.check(), "L?6 B2:?6");
    x.purge();
    due(x.check(), "B2:-");
    due(x.ofBlock(2, 0), 2);
    x.makeFile(05);
    due(x.makeFile(013), 7);
    due(x.ofFile(7, 4), 1);
    put(x, 05, 0, 8);
    due(x.ofBlock(3, 0), 1);
    due(x.check(), "B2:-");
    x.drop(0);
    due(x.check(), "");
    due(x.repair(), 0);
    refused(x, INDEX, () -> x.harm(true, 2));
    refused(x, INDEX, () -> x.harm(false, 8));
  }

  private static void harmOutlivesWhatCameToNothing() {
    Memoryfiles x = made();
    x.makeFile(01);
    put(x, 01, 0, 16);
    x.keep(0);
    put(x, 01, 8, 16);
    x.harm(true, 2);
    x.quota(0, 0);
    // The BLOCK would be let go first, but then a new one does not fit.
    refused(x, FULL, () -> x.cut(01, 3));
    due(x.check(), "B2:/a");
    due(x.ofBlock(2, 0), 2);
    x.tick(1);
    x.makeFile(02);
    due(x.check(), "B2:/a");
    due(x.ofBlock(2, 0), 2);
  }

  private static void harmOfWhatIsThereAnew() {
    Memoryfiles x = made();
    x.makeFile(01);
    put(x, 01, 0, 8);
    x.harm(true, 0);
    x.cut(01, 0);
    due(x.check(), "");
    put(x, 01, 0, 8);
    due(x.ofBlock(0, 0), 1);
    x.harm(true, 0);
    // That it was free once does not end HARM that came later.
    x.makeFile(02);
    due(x.check(), "B0:/a");
    due(x.ofBlock(0, 0), 2);
    x.unlink(02);
    x.makeFile(02);
    x.harm(false, 2);
    x.quota(1, 1);
    due(x.check(), "L/b B0:/a");
  }

  private static void ways() {
    Memoryfiles x = made();
    due(x.wayOf(0), "/");
    x.makeDirectory(05);
    x.makeDirectory(051);
    x.makeFile(0512);
    due(x.wayOf(1), "/e");
    due(x.wayOf(2), "/e/a");
    due(x.wayOf(3), "/e/a/b");
    // The DIRECTORY with the smallest number goes ahead of the smallest NAME.
    x.link(0512, 0511);
    due(x.wayOf(3), "/e/a/a");
    x.link(0512, 055);
    due(x.wayOf(3), "/e/e");
    x.link(0512, 053);
    due(x.wayOf(3), "/e/c");
    x.link(0512, 04);
    due(x.wayOf(3), "/d");
    x.open(04, 0);
    x.unlink(04);
    x.removeTree(05);
    due(x.wayOf(3), "?3");
    x.makeDirectory(01);
    due(x.wayOf(1), "/a");
    refused(x, INDEX, () -> x.wayOf(2));
    fillFiles(x, 30);
    due(x.wayOf(29), "/e/e/a");
    refused(x, INDEX, () -> x.wayOf(30));
    refused(x, INDEX, () -> x.wayOf(-1));
  }

  private static void longestWay() {
    Memoryfiles x = made();
    for (int i = 1; i < 30; i++) {
      due(x.makeDirectory(i % 5 + 1), i);
      x.go(i % 5 + 1);
    }
    due(x.wayOf(29).length(), 58);
    due(x.wayOf(29).substring(0, 12), "/b/c/d/e/a/b");
    due(x.isSound(), true);
    due(x.move(-02, 01), WITHIN);
    due(x.compare(-02, -02), 1);
    due(x.compare(-02, 0), 0);
    due(x.copyTree(0, -01), FULL);
    due(x.removeTree(-02), 29);
    due(x.house(1), 0);
  }

  private static void ahead() {
    edge("if several exceptions apply, the one that is named first is thrown", MemoryfilesEdges::firstException);
    edge("they go ahead of these numbers", MemoryfilesEdges::exceptionsAheadOfNumbers);
    edge("but for DOWN", MemoryfilesEdges::downAheadOfExceptions);
  }

  private static void section1() {
    edge("FILES have numbers 0 to 29", MemoryfilesEdges::thirtyFiles);
    edge("FULL (of copyTree())", MemoryfilesEdges::thirtyFilesByCopy);
    edge("a new one has the smallest that is none", MemoryfilesEdges::smallestNumber);
    edge("it has no number any more", MemoryfilesEdges::openKeepsNumber);
    edge("USER as OWNER, RIGHTS 58, CLOCK as TIME, and one LINK", MemoryfilesEdges::newFile);
    edge("ROOT, the DIRECTORY 0, has one more", MemoryfilesEdges::linksOfRoot);
    edge("At first there is ROOT alone: OWNER 0, RIGHTS 63, TIME 0", MemoryfilesEdges::rootAlone);
    edge("NAMES are 1 to 5, written a to e", MemoryfilesEdges::fiveNames);
    edge("NAMES are 1 to 5 (for what is done with a DIRECTORY)", MemoryfilesEdges::eachOfFiveNames);
    edge("In a DIRECTORY each NAME leads to one FILE at most", MemoryfilesEdges::oneFileForOneName);
    edge("ROOT in itself", MemoryfilesEdges::rootIsInItself);
    edge("A DIRECTORY has just one NAME; it is in that DIRECTORY", MemoryfilesEdges::otherDirectory);
    edge("A PATH is a number of -16777215 to 16777215", MemoryfilesEdges::pathsFromTo);
    edge("there is no digit 0 in it", MemoryfilesEdges::noDigitZero);
    edge("0 itself has no STEP", MemoryfilesEdges::zeroHasNoStep);
    edge("It begins at ROOT, if it is below 0, otherwise at the WORK", MemoryfilesEdges::whereItBegins);
    edge("where one is has to be a DIRECTORY which USER is ABLE to READ", MemoryfilesEdges::eachStepNeedsADirectory);
    edge("If that is a SOFT one, and another STEP follows, or the PATH is FOLLOWED", MemoryfilesEdges::softGoneOrNot);
    edge("from the DIRECTORY in which this NAME is (from ROOT, if it is below 0)",
        MemoryfilesEdges::softFromItsDirectory);
    edge("at the ninth SOFT one gone so for one told PATH: ROUND", MemoryfilesEdges::eightSoftOnes);
    edge("at the ninth SOFT one", MemoryfilesEdges::ninthSoftGoesAhead);
    edge("for one told PATH", MemoryfilesEdges::eachToldPathCountsAnew);
    edge("Where a PATH ends, what it ends at need not be READ", MemoryfilesEdges::endNeedNotBeRead);
    edge("A PLACE for a new NAME: a PATH whose last STEP is a NAME", MemoryfilesEdges::placeEndsWithAName);
    edge("from ROOT, too, if it is below 0", MemoryfilesEdges::placeFromRoot);
    edge("where that ends has to be a DIRECTORY, which USER is ABLE to WRITE", MemoryfilesEdges::placeInADirectory);
    edge("USER 0 is to all; others by RIGHTS", MemoryfilesEdges::ableByRights);
    edge("As a FILE loses its last LINK, and no HANDLE has it open", MemoryfilesEdges::lastLinkOrHandle);
    edge("TIME of a FILE: the CLOCK, as it was made ..", MemoryfilesEdges::timeOfAFile);
    edge("If WORK is GONE, ROOT is it", MemoryfilesEdges::workGone);
  }

  private static void section2() {
    edge("A DATA FILE has a SIZE (0 to 80)", MemoryfilesEdges::sizeFromTo);
    edge("that of the place p has the BYTES 8 * p to 8 * p + 7", MemoryfilesEdges::placesOfBlocks);
    edge("Where it has none (a HOLE), BYTES are 0", MemoryfilesEdges::holes);
    edge("Behind SIZE all BYTES of a BLOCK are 0", MemoryfilesEdges::behindSize);
    edge("There are 64 BLOCKS", MemoryfilesEdges::sixtyFourBlocks);
    edge("A new BLOCK is the smallest that is free", MemoryfilesEdges::smallestFreeBlock);
    edge("its USER is the OWNER of the FILE for which it is", MemoryfilesEdges::userOfABlock);
    edge("all its BYTES are 0 at first", MemoryfilesEdges::newBlockIsEmpty);
    edge("QUOTA of that USER or more are USED by it already", MemoryfilesEdges::quotaReached);
    edge("or more", MemoryfilesEdges::quotaBelowUsed);
    edge("a new one with the same BYTES .. If a new one does not fit, FULL", MemoryfilesEdges::sharedBlockNeedsQuota);
    edge("To let a BLOCK go: its COUNT is 1 less; at 0 it is free", MemoryfilesEdges::letGo);
    edge("if it has one with a COUNT above 1 .. Also BYTES that are alike", MemoryfilesEdges::writeIntoShared);
    edge("FULL: nothing at all is changed", MemoryfilesEdges::fullChangesNothing);
    edge("SIZE is, then, behind the last one of them, if it was less", MemoryfilesEdges::sizeAfterWriting);
  }

  private static void section3() {
    edge("HANDLES are 0 to 5, none open at first", MemoryfilesEdges::sixHandles);
    edge("a PLACE (0 to 80)", MemoryfilesEdges::placeFromToEighty);
    edge("at most 4", MemoryfilesEdges::fourLocks);
    edge("MEET, if a place is in both, and one of both is ALONE", MemoryfilesEdges::locksThatMeet);
    edge("It can WAIT for a LOCK (till its next lock() or unlock())", MemoryfilesEdges::waitsTillNext);
    edge("the HANDLE WAITS for that (and for none else)", MemoryfilesEdges::waitsForNoneElse);
    edge("A HANDLE WAITS for another one, if it WAITS for a LOCK that MEETS one of that",
        MemoryfilesEdges::waitsForWhatMeets);
    edge("It is RINGED, if one comes from it .. back to it", MemoryfilesEdges::rings);
    edge("always on to a HANDLE for which the last one WAITS", MemoryfilesEdges::ringsOfSix);
  }

  private static void section4() {
    edge("each THING that is another one by it", MemoryfilesEdges::eachOtherThing);
    edge("BYTES, COUNT, USER count", MemoryfilesEdges::userCounts);
    edge("If none is another one, nothing is WRITTEN", MemoryfilesEdges::noneIsAnother);
    edge("if the JOURNAL would have more than 160 RECORDS, it is FLUSHED first", MemoryfilesEdges::hundredAndSixty);
    edge("with MEMORY as it was ahead of the call", MemoryfilesEdges::crashInThePassing);
    edge("The call has happened as its END is WRITTEN", MemoryfilesEdges::crashBehindEachWrite);
    edge("To FLUSH: all DIRTY THINGS are put BACK; then the JOURNAL is emptied",
        MemoryfilesEdges::flushBehindEachWrite);
    edge("also if nothing is DIRTY", MemoryfilesEdges::nothingIsDirty);
    edge("THINGS: FILES, BLOCKS, the SLOTS 0 and 1, QUOTAS; in this order", MemoryfilesEdges::orderOfThings);
    edge("also that whose END was the last WRITE; it has happened", MemoryfilesEdges::tornCallIsNotDirty);
    edge("0: at once", MemoryfilesEdges::crashAtOnce);
    edge("behind so many more WRITES (500)", MemoryfilesEdges::crashBehindFiveHundred);
    edge("behind so many more WRITES (1)", MemoryfilesEdges::crashBehindOne);
    edge("MEMORY, HANDLES (with LOCKS), the CACHE and all RECORDS behind the last END are lost",
        MemoryfilesEdges::lostByACrash);
    edge("FILES without LINKS that are still there are LOST from now on", MemoryfilesEdges::lostFiles);
    edge("To MEND: MEMORY becomes what the DISK has (of adopt())", MemoryfilesEdges::adoptionTorn);
  }

  private static void section5() {
    edge("A SLOT is empty", MemoryfilesEdges::emptySlot);
    edge("or has FILES as they were, with all their numbers", MemoryfilesEdges::slotAsItWas);
    edge("The CACHE has the 4 BLOCKS that were touched last", MemoryfilesEdges::cacheOfFour);
    edge("each BLOCK of which BYTES are told, once for each call", MemoryfilesEdges::touchedOnceForEachCall);
    edge("by their numbers, whatever became of them", MemoryfilesEdges::byTheirNumbers);
    edge("\"+\" .. \"-\" .. \"*\" .. \"~\"", MemoryfilesEdges::signsOfAWatch);
    edge("The first 20 are kept", MemoryfilesEdges::twentyWords);
    edge("If the DIRECTORY is GONE, nothing is watched any more", MemoryfilesEdges::watchedIsGone);
    edge("A DIRECTORY can be watched (wherever it is)", MemoryfilesEdges::watchedMoves);
    edge("one more than they are by each harm(), till repair() or mend()", MemoryfilesEdges::harmTillRepair);
    edge("A FILE that is GONE, and a BLOCK that is free, is not HARMED any more", MemoryfilesEdges::harmOfWhatIsGone);
    edge("then nothing is changed (HARM)", MemoryfilesEdges::harmOutlivesWhatCameToNothing);
    edge("is not HARMED any more (till harm() anew)", MemoryfilesEdges::harmOfWhatIsThereAnew);
    edge("The WAY of a FILE", MemoryfilesEdges::ways);
    edge("\"?\" and its number, if there is none (and the longest one)", MemoryfilesEdges::longestWay);
  }

  public static void main(String[] args) {
    ahead();
    section1();
    section2();
    section3();
    section4();
    section5();
    System.out.println(wrong == 0 ? tests + " sentences hold" : wrong + " answers are not as due");
    if (wrong != 0) {
      System.exit(1);
    }
  }
}
