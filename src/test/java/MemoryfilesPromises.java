/** Each promise of the document, 1 to 48: ordinary inputs, edges, and wrong inputs. PATHS are written in the radix 8. */
public final class MemoryfilesPromises {
  private static final int NONE = -1;
  private static final int NO = -2;
  private static final int FLAT = -3;
  private static final int THERE = -4;
  private static final int SHUT = -5;
  private static final int DOWN = -6;
  private static final int ROUND = -7;
  private static final int FULL = -8;
  private static final int LADEN = -9;
  private static final int TREE = -10;
  private static final int WITHIN = -11;
  private static final int HELD = -12;

  private static final Class<?> ARGUMENT = IllegalArgumentException.class;
  private static final Class<?> INDEX = IndexOutOfBoundsException.class;
  private static final Class<?> STATE = IllegalStateException.class;

  private static int wrong = 0;
  private static int promise = 0;

  private static void due(long got, long want) {
    if (got != want) {
      tell(String.valueOf(got), String.valueOf(want));
    }
  }

  private static void due(String got, String want) {
    if (!want.equals(got)) {
      tell(got, want);
    }
  }

  private static void dueThrow(Class<?> want, Runnable call) {
    try {
      call.run();
      tell("no exception", want.getName());
    } catch (RuntimeException e) {
      if (e.getClass() != want) {
        tell(e.toString(), want.getName());
      }
    }
  }

  private static void tell(String got, String want) {
    wrong++;
    StackTraceElement[] way = Thread.currentThread().getStackTrace();
    int line = 0;
    for (StackTraceElement step : way) {
      if (step.getMethodName().startsWith("promise")) {
        line = step.getLineNumber();
        break;
      }
    }
    System.out.println("promise " + promise + ", line " + line + ": answered " + got + ", due is " + want);
  }

  /** Fills all FILES that are left with DIRECTORIES and SOFT ones below the NAME e of ROOT. */
  private static void fillFiles(Memoryfiles x) {
    x.makeDirectory(-05);
    for (int name = 1; name <= 5; name++) {
      x.makeDirectory(-(050 + name));
    }
    for (int outer = 1; outer <= 5; outer++) {
      for (int name = 1; name <= 5; name++) {
        x.makeSoft(-(0500 + outer * 8 + name), 0);
      }
    }
  }

  private static void writeMany(Memoryfiles x, int handle, int from, int to) {
    x.seek(handle, from);
    for (int at = from; at < to; at += 8) {
      x.write(handle, 11111111, 8);
    }
  }

  private static void promise1() {
    Memoryfiles x = new Memoryfiles();
    int[] want = {0, 0, 0, NONE, 1, 64, 0, 0, 0, NONE, 0, 0, 0, 0, 0, 0, 0, 0};
    for (int what = 0; what <= 17; what++) {
      due(x.house(what), want[what]);
    }
    int[] root = {1, 0, 63, 0, 1, 0, 0, 0, 0};
    for (int what = 0; what <= 8; what++) {
      due(x.ofFile(0, what), root[what]);
    }
    for (int user = 0; user <= 3; user++) {
      due(x.ofUser(user, true), 64);
      due(x.ofUser(user, false), 0);
    }
    due(x.list(0, 1), "");
    due(x.heard(), "");
    due(x.check(), "");
    due(x.slotByte(0, 0, 0), NO);
    due(x.slotByte(1, 0, 0), NO);
    dueThrow(STATE, () -> x.mend());
    Memoryfiles other = new Memoryfiles();
    other.makeFile(1);
    due(x.house(4), 1);
  }

  private static void promise2() {
    Memoryfiles x = new Memoryfiles();
    due(x.be(3), 0);
    due(x.be(3), 3);
    due(x.be(1), 3);
    due(x.house(0), 1);
    dueThrow(ARGUMENT, () -> x.be(-1));
    dueThrow(ARGUMENT, () -> x.be(4));
    due(x.be(0), 1);
    due(x.house(11), 0);
  }

  private static void promise3() {
    Memoryfiles x = new Memoryfiles();
    due(x.tick(0), 0);
    due(x.tick(7), 7);
    due(x.tick(993), 1000);
    dueThrow(ARGUMENT, () -> x.tick(-1));
    dueThrow(ARGUMENT, () -> x.tick(1001));
    due(x.house(2), 1000);
    Memoryfiles y = new Memoryfiles();
    for (int i = 0; i < 1000; i++) {
      y.tick(1000);
    }
    due(y.tick(0), 1000000);
    dueThrow(STATE, () -> y.tick(1));
    dueThrow(ARGUMENT, () -> y.tick(1001));
    due(y.house(2), 1000000);
  }

  private static void promise4() {
    Memoryfiles x = new Memoryfiles();
    x.makeDirectory(01);
    x.makeDirectory(012);
    x.makeFile(03);
    x.makeSoft(04, -012);
    due(x.go(04), 2);
    due(x.house(1), 2);
    due(x.go(07), 1);
    due(x.go(03), NO);
    due(x.go(-03), FLAT);
    due(x.house(1), 1);
    due(x.go(06), 1);
    due(x.go(0), 1);
    due(x.go(077777777), 0);
    dueThrow(ARGUMENT, () -> x.go(010));
    dueThrow(ARGUMENT, () -> x.go(0100000000));
    dueThrow(ARGUMENT, () -> x.go(-0100000001));
    dueThrow(ARGUMENT, () -> x.go(Integer.MIN_VALUE));
    due(x.go(-066666666), 0);
    x.rights(01, 0);
    x.be(2);
    // Where a PATH ends need not be READ, but what lies behind it.
    due(x.go(01), 1);
    due(x.go(-012), SHUT);
    due(x.go(02), SHUT);
    due(x.go(07), SHUT);
    due(x.go(-06), 0);
    x.be(0);
    x.go(-012);
    x.rights(01, 63);
    due(x.unlink(-012), 0);
    due(x.house(1), 0);
  }

  private static void promise5() {
    Memoryfiles x = new Memoryfiles();
    x.makeDirectory(01);
    x.makeFile(02);
    due(x.watch(01), 1);
    due(x.house(3), 1);
    x.makeFile(013);
    due(x.watch(02), FLAT);
    due(x.watch(03), NO);
    due(x.house(3), 1);
    x.rights(01, 0);
    x.be(1);
    due(x.watch(01), SHUT);
    due(x.watch(0), 0);
    due(x.heard(), "");
    dueThrow(ARGUMENT, () -> x.watch(020));
    due(x.house(3), 0);
    x.be(0);
    due(x.watch(01), 1);
    x.unlink(013);
    due(x.unlink(01), 0);
    due(x.house(3), NONE);
    due(x.heard(), "-c");
    x.watch(0);
    x.crash(0);
    due(x.house(3), NONE);
    x.mend();
    due(x.house(3), NONE);
  }

  private static void promise5Rights() {
    Memoryfiles x = new Memoryfiles();
    x.makeDirectory(01);
    x.rights(01, 63 - 8);
    x.be(1);
    due(x.watch(01), SHUT);
    x.be(0);
    x.rights(01, 63 - 4);
    x.be(1);
    due(x.watch(01), 1);
  }

  private static void promise6() {
    Memoryfiles x = new Memoryfiles();
    x.makeFile(01);
    x.watch(0);
    x.makeFile(02);
    x.tick(1);
    int h = x.open(02, 1);
    x.write(h, 1, 1);
    x.write(h, 2, 1);
    x.write(h, 3, 1);
    x.seek(h, 0);
    // The BLOCK is another THING then, but not the FILE.
    x.write(h, 4, 1);
    x.move(01, 02);
    x.rights(02, 1);
    x.rights(02, 1);
    x.move(02, 03);
    x.link(03, 01);
    x.makeDirectory(013);
    x.makeDirectory(05);
    x.makeFile(053);
    x.open(03, 0);
    x.close(h);
    due(x.heard(), "+b ~b ~b ~b -a *b ~b -b +c +a ~c +e ~e");
    due(x.heard(), "");
    x.keep(0);
    due(x.heard(), "");
    for (int i = 0; i < 12; i++) {
      x.makeFile(02);
      x.unlink(02);
    }
    String all = x.heard();
    due(all.length(), 59);
    due(all.substring(0, 8), "+b -b +b");
    x.makeFile(02);
    due(x.heard(), "+b");
    x.watch(05);
    x.makeDirectory(051);
    x.makeDirectory(0512);
    x.removeTree(05);
    due(x.heard(), "+a ~a -a -c");
    due(x.house(3), NONE);
    x.watch(0);
    x.unlink(02);
    x.watch(0);
    due(x.heard(), "");
    x.makeFile(02);
    x.crash(0);
    due(x.heard(), "-6");
    x.mend();
    due(x.heard(), "");
  }

  private static void promise7() {
    Memoryfiles x = new Memoryfiles();
    x.tick(5);
    x.be(2);
    due(x.makeDirectory(01), 1);
    int[] want = {1, 2, 58, 5, 1, 0, 0, 0, 0};
    for (int what = 0; what <= 8; what++) {
      due(x.ofFile(1, what), want[what]);
    }
    due(x.ofFile(0, 3), 5);
    due(x.ofFile(0, 4), 1);
    due(x.ofFile(0, 5), 1);
    due(x.makeDirectory(01), THERE);
    due(x.makeDirectory(021), NO);
    due(x.makeFile(02), 2);
    due(x.makeDirectory(021), FLAT);
    due(x.makeDirectory(0212), FLAT);
    x.makeSoft(03, 03);
    due(x.makeDirectory(031), ROUND);
    x.be(1);
    due(x.makeDirectory(012), SHUT);
    due(x.makeDirectory(-011), SHUT);
    x.be(3);
    due(x.makeDirectory(012), SHUT);
    x.be(0);
    x.makeSoft(04, 01);
    due(x.makeDirectory(042), 5);
    due(x.wayOf(5), "/a/b");
    due(x.makeDirectory(0121), 6);
    due(x.unlink(0121), 0);
    due(x.makeDirectory(-0123), 6);
    due(x.ofFile(6, 1), 0);
    dueThrow(ARGUMENT, () -> x.makeDirectory(0));
    dueThrow(ARGUMENT, () -> x.makeDirectory(016));
    dueThrow(ARGUMENT, () -> x.makeDirectory(-017));
    dueThrow(ARGUMENT, () -> x.makeDirectory(0101));
    dueThrow(ARGUMENT, () -> x.makeDirectory(0111111111));
    Memoryfiles y = new Memoryfiles();
    fillFiles(y);
    due(y.house(4), 30);
    due(y.makeDirectory(-01), FULL);
    due(y.makeDirectory(-05), THERE);
    due(y.unlink(-0533), 0);
    due(y.makeDirectory(-01), 19);
    due(y.isSound() ? 1 : 0, 1);
  }

  private static void promise8() {
    Memoryfiles x = new Memoryfiles();
    x.tick(9);
    due(x.makeFile(05), 1);
    int[] want = {0, 0, 58, 9, 1, 0, 0, 0, 0};
    for (int what = 0; what <= 8; what++) {
      due(x.ofFile(1, what), want[what]);
    }
    due(x.house(7), 4);
    due(x.makeFile(05), THERE);
    due(x.makeFile(015), NO);
    due(x.makeFile(051), FLAT);
    x.be(1);
    due(x.makeFile(04), 2);
    due(x.ofFile(2, 1), 1);
    x.be(0);
    x.rights(0, 61);
    x.be(2);
    due(x.makeFile(03), 3);
    x.be(0);
    x.rights(0, 62);
    x.be(2);
    due(x.makeFile(02), SHUT);
    due(x.makeFile(03), SHUT);
    dueThrow(ARGUMENT, () -> x.makeFile(0));
    dueThrow(ARGUMENT, () -> x.makeFile(056));
    dueThrow(ARGUMENT, () -> x.makeFile(-16777217));
    due(x.house(4), 4);
    Memoryfiles y = new Memoryfiles();
    y.makeSoft(01, 01);
    due(y.makeFile(012), ROUND);
    y.unlink(01);
    fillFiles(y);
    due(y.makeFile(-01), FULL);
  }

  private static void promise9() {
    Memoryfiles x = new Memoryfiles();
    due(x.makeSoft(01, -077), 1);
    int[] want = {2, 0, 58, 0, 1, -077, 0, 0, 0};
    for (int what = 0; what <= 8; what++) {
      due(x.ofFile(1, what), want[what]);
    }
    due(x.makeSoft(01, 02), THERE);
    due(x.makeSoft(02, 0), 2);
    due(x.find(02, true), 0);
    due(x.find(02, false), 2);
    dueThrow(ARGUMENT, () -> x.makeSoft(03, 010));
    dueThrow(ARGUMENT, () -> x.makeSoft(03, 16777216));
    dueThrow(ARGUMENT, () -> x.makeSoft(06, 01));
    due(x.makeSoft(0333, 01), NO);
    x.makeFile(05);
    due(x.makeSoft(053, 01), FLAT);
    due(x.makeSoft(03, 03), 4);
    due(x.makeSoft(031, 03), ROUND);
    x.rights(0, 0);
    x.be(1);
    due(x.makeSoft(04, 03), SHUT);
    Memoryfiles y = new Memoryfiles();
    fillFiles(y);
    due(y.makeSoft(-01, 0), FULL);
  }

  private static void promise10() {
    Memoryfiles x = new Memoryfiles();
    x.makeFile(01);
    x.makeDirectory(02);
    x.makeSoft(03, 01);
    x.tick(4);
    due(x.link(01, 021), 2);
    due(x.ofFile(2, 3), 4);
    due(x.ofFile(1, 3), 0);
    due(x.find(021, false), 1);
    due(x.link(03, 022), 2);
    due(x.ofFile(3, 4), 2);
    due(x.ofFile(1, 4), 2);
    due(x.link(02, 04), TREE);
    due(x.link(0, 04), TREE);
    due(x.link(04, 05), NO);
    due(x.link(011, 05), FLAT);
    due(x.link(01, 03), THERE);
    due(x.link(01, 01), THERE);
    due(x.link(01, 041), NO);
    due(x.link(01, 012), FLAT);
    due(x.link(02, 041), TREE);
    x.makeSoft(04, 04);
    due(x.link(01, 041), ROUND);
    due(x.link(041, 05), ROUND);
    x.rights(02, 0);
    x.be(1);
    due(x.link(021, 05), SHUT);
    due(x.link(01, 023), SHUT);
    // The same NAME leads to the SOFT one itself: a SOFT FILE at the end is not FOLLOWED.
    due(x.link(04, 05), 2);
    dueThrow(ARGUMENT, () -> x.link(010, 01));
    dueThrow(ARGUMENT, () -> x.link(01, 0));
    dueThrow(ARGUMENT, () -> x.link(01, 017));
  }

  private static void promise11() {
    Memoryfiles x = new Memoryfiles();
    x.makeDirectory(01);
    x.makeFile(012);
    x.link(012, 03);
    due(x.unlink(01), LADEN);
    x.tick(8);
    due(x.unlink(012), 1);
    due(x.ofFile(1, 3), 8);
    due(x.ofFile(0, 3), 0);
    due(x.ofFile(2, 3), 0);
    due(x.unlink(012), NO);
    due(x.unlink(0123), NO);
    due(x.unlink(031), FLAT);
    int h = x.open(03, 2);
    x.write(h, 5, 1);
    due(x.unlink(03), 0);
    due(x.house(4), 3);
    due(x.ofFile(2, 4), 0);
    due(x.ofFile(2, 8), 0);
    due(x.house(5), 63);
    due(x.wayOf(2), "?2");
    due(x.write(h, 7, 1), 2);
    due(x.close(h), 1);
    due(x.house(5), 64);
    dueThrow(INDEX, () -> x.ofFile(2, 0));
    due(x.unlink(01), 0);
    due(x.house(4), 1);
    x.makeSoft(01, 0);
    due(x.unlink(01), 0);
    x.makeDirectory(01);
    x.makeFile(012);
    x.be(3);
    due(x.unlink(012), SHUT);
    due(x.unlink(013), SHUT);
    // ROOT may be WRITTEN by all: OWNERS of what has the NAME do not count.
    due(x.unlink(01), LADEN);
    dueThrow(ARGUMENT, () -> x.unlink(0));
    dueThrow(ARGUMENT, () -> x.unlink(016));
  }

  /** The last NAME counts as the others. */
  private static void promise11Last() {
    Memoryfiles x = new Memoryfiles();
    x.makeDirectory(01);
    x.makeFile(015);
    due(x.unlink(01), LADEN);
    due(x.ofFile(1, 5), 1);
    x.makeDirectory(02);
    due(x.compare(01, 02), 0);
    due(x.copyTree(01, 03), 2);
    due(x.find(035, true), 5);
    due(x.compare(01, 03), 1);
    x.rights(015, 0);
    x.be(1);
    due(x.copyTree(01, 04), SHUT);
    due(x.removeTree(01), SHUT);
    x.be(0);
    due(x.removeTree(01), 2);
    due(x.house(4), 4);
    x.makeDirectory(031);
    x.makeDirectory(032);
    x.unlink(035);
    x.makeDirectory(035);
    x.makeFile(0355);
    x.rights(03, 63);
    x.be(2);
    due(x.removeTree(03), SHUT);
    x.be(0);
    due(x.removeTree(03), 5);
    due(x.isSound() ? 1 : 0, 1);
  }

  private static void promise12() {
    Memoryfiles x = new Memoryfiles();
    x.makeDirectory(01);
    x.makeDirectory(012);
    x.makeFile(0123);
    x.makeFile(04);
    x.makeDirectory(05);
    x.tick(6);
    due(x.move(04, 0124), 0);
    due(x.find(04, true), NO);
    due(x.find(0124, true), 4);
    due(x.ofFile(0, 3), 6);
    due(x.ofFile(2, 3), 6);
    due(x.ofFile(1, 3), 0);
    due(x.ofFile(4, 3), 0);
    due(x.move(0124, 0123), 1);
    dueThrow(INDEX, () -> x.ofFile(3, 0));
    due(x.move(01, 0125), WITHIN);
    due(x.move(01, 015), WITHIN);
    due(x.move(05, 0123), FLAT);
    due(x.move(05, 01), LADEN);
    due(x.move(0123, 05), TREE);
    due(x.move(04, 03), NO);
    due(x.move(041, 03), NO);
    due(x.move(0123, 041), NO);
    due(x.move(01231, 03), FLAT);
    due(x.move(0123, 01231), FLAT);
    // WITHIN goes ahead of what the other NAME leads to.
    due(x.move(01, 012), WITHIN);
    due(x.move(01, 01), 0);
    due(x.move(012, 05), 1);
    due(x.wayOf(2), "/e");
    dueThrow(INDEX, () -> x.ofFile(5, 0));
    due(x.find(057, true), 0);
    due(x.link(053, 04), 2);
    int before = x.house(11);
    due(x.move(053, 04), 0);
    due(x.house(11), before);
    due(x.ofFile(4, 4), 2);
    due(x.isSound() ? 1 : 0, 1);
    x.makeSoft(03, 03);
    due(x.move(031, 02), ROUND);
    due(x.move(03, 02), 0);
    due(x.ofFile(3, 0), 2);
    x.rights(05, 47);
    x.be(1);
    due(x.move(053, 03), 0);
    x.be(0);
    x.rights(05, 50);
    x.be(1);
    due(x.move(051, 03), SHUT);
    due(x.move(03, 051), SHUT);
    x.be(0);
    x.go(01);
    due(x.move(-04, -01), TREE);
    x.unlink(-04);
    x.makeDirectory(-04);
    due(x.move(-04, -01), 1);
    due(x.house(1), 0);
    dueThrow(ARGUMENT, () -> x.move(0, 01));
    dueThrow(ARGUMENT, () -> x.move(01, 0));
    dueThrow(ARGUMENT, () -> x.move(01, 07));
    Memoryfiles y = new Memoryfiles();
    y.makeFile(01);
    y.makeFile(02);
    int h = y.open(02, 0);
    due(y.move(01, 02), 1);
    due(y.ofHandle(h, 0), 2);
    due(y.ofFile(2, 4), 0);
    due(y.close(h), 1);
  }

  private static void promise13() {
    Memoryfiles x = new Memoryfiles();
    x.be(1);
    x.makeFile(01);
    x.makeSoft(02, 01);
    x.tick(3);
    due(x.rights(02, 63), 58);
    due(x.ofFile(1, 2), 63);
    due(x.ofFile(2, 2), 58);
    due(x.ofFile(1, 3), 0);
    x.be(0);
    due(x.rights(01, 0), 63);
    x.be(2);
    due(x.rights(01, 5), SHUT);
    due(x.rights(0, 5), SHUT);
    x.be(1);
    due(x.rights(01, 5), 0);
    due(x.rights(03, 5), NO);
    due(x.rights(011, 5), FLAT);
    x.makeSoft(05, 05);
    due(x.rights(05, 5), ROUND);
    dueThrow(ARGUMENT, () -> x.rights(01, 64));
    dueThrow(ARGUMENT, () -> x.rights(01, -1));
    dueThrow(ARGUMENT, () -> x.rights(010, 1));
    int before = x.house(11);
    due(x.rights(01, 5), 5);
    due(x.house(11), before);
    // Each of the three pairs of RIGHTS counts for its own USERS alone.
    x.be(0);
    x.rights(01, 8 + 4 + 2 + 1);
    x.be(1);
    due(x.open(01, 0), SHUT);
    due(x.open(01, 1), SHUT);
    x.be(0);
    x.makeFile(03);
    x.rights(03, 32 + 16 + 2 + 1);
    x.be(1);
    due(x.open(03, 0), SHUT);
    due(x.open(03, 3), SHUT);
    x.be(3);
    due(x.open(03, 2), 0);
    x.be(0);
    x.rights(03, 32 + 16 + 8 + 4);
    x.be(2);
    due(x.open(03, 0), SHUT);
    due(x.open(03, 1), SHUT);
    x.be(1);
    due(x.open(03, 2), 1);
  }

  private static void promise14() {
    Memoryfiles x = new Memoryfiles();
    due(x.quota(3, 1), 64);
    due(x.ofUser(3, true), 1);
    due(x.quota(3, 0), 1);
    due(x.quota(0, 64), 64);
    dueThrow(ARGUMENT, () -> x.quota(4, 1));
    dueThrow(ARGUMENT, () -> x.quota(-1, 1));
    dueThrow(ARGUMENT, () -> x.quota(1, 65));
    dueThrow(ARGUMENT, () -> x.quota(1, -1));
    x.be(1);
    due(x.quota(1, 2), SHUT);
    dueThrow(ARGUMENT, () -> x.quota(1, 65));
    x.makeFile(01);
    int h = x.open(01, 2);
    due(x.write(h, 0, 9), 9);
    due(x.ofUser(1, false), 2);
    x.be(0);
    due(x.quota(1, 1), 64);
    due(x.write(h, 0, 7), 16);
    due(x.write(h, 0, 1), FULL);
    due(x.ofUser(1, false), 2);
    // The OWNER counts, not who writes.
    x.quota(1, 3);
    x.quota(0, 0);
    due(x.write(h, 0, 1), 17);
    due(x.ofUser(0, false), 0);
  }

  private static void promise15() {
    Memoryfiles x = new Memoryfiles();
    x.makeFile(01);
    x.makeDirectory(02);
    x.makeSoft(03, 01);
    int h = x.open(01, 2);
    writeMany(x, h, 0, 80);
    due(x.ofFile(1, 6), 10);
    x.tick(2);
    due(x.cut(03, 80), 80);
    due(x.ofFile(1, 3), 0);
    due(x.cut(01, 33), 80);
    due(x.ofFile(1, 3), 2);
    due(x.ofFile(1, 6), 5);
    due(x.ofBlock(4, 2), 1);
    due(x.cut(01, 32), 33);
    due(x.ofFile(1, 6), 4);
    due(x.cut(01, 80), 32);
    due(x.ofFile(1, 6), 4);
    x.seek(h, 30);
    due(x.read(h, 4), "1100");
    due(x.cut(01, 0), 80);
    due(x.house(5), 64);
    due(x.cut(02, 0), TREE);
    due(x.cut(0, 0), TREE);
    due(x.cut(04, 0), NO);
    due(x.cut(011, 0), FLAT);
    x.makeSoft(04, 04);
    due(x.cut(04, 0), ROUND);
    dueThrow(ARGUMENT, () -> x.cut(01, 81));
    dueThrow(ARGUMENT, () -> x.cut(01, -1));
    dueThrow(ARGUMENT, () -> x.cut(010, 1));
    x.be(1);
    due(x.cut(01, 5), SHUT);
    x.be(0);
    // A BLOCK that a SLOT has, too, is not WRITTEN: the FILE gets a new one, if it fits.
    x.seek(h, 0);
    x.write(h, 123456789, 9);
    x.keep(0);
    x.quota(0, 2);
    due(x.cut(01, 3), FULL);
    due(x.ofFile(1, 5), 9);
    due(x.ofFile(1, 6), 2);
    due(x.isSound() ? 1 : 0, 1);
    x.quota(0, 3);
    due(x.cut(01, 3), 9);
    due(x.ofBlock(2, 2), 6);
    due(x.ofBlock(0, 2), 36);
    due(x.ofBlock(0, 0), 1);
    due(x.slotByte(0, 01, 4), 5);
    // Of BYTES that are 0 already nothing is WRITTEN.
    x.keep(0);
    x.quota(0, 0);
    due(x.cut(01, 4), 3);
    due(x.cut(01, 3), 4);
    due(x.ofBlock(2, 0), 2);
  }

  /** What is let go first makes room for the new BLOCK, and ends HARM of it. */
  private static void promise15More() {
    Memoryfiles x = new Memoryfiles();
    x.makeFile(01);
    int h = x.open(01, 2);
    x.write(h, 12345678, 8);
    x.keep(0);
    x.write(h, 99, 2);
    due(x.harm(true, 1), 2);
    x.quota(0, 2);
    due(x.cut(01, 3), 10);
    due(x.ofBlock(1, 0), 1);
    due(x.ofBlock(1, 2), 6);
    due(x.check(), "");
    due(x.slotByte(0, 01, 7), 8);
    x.drop(0);
    due(x.house(5), 63);
  }

  private static void promise16() {
    Memoryfiles x = new Memoryfiles();
    x.makeFile(01);
    x.makeDirectory(02);
    x.makeSoft(03, 01);
    due(x.open(03, 0), 0);
    due(x.open(01, 1), 1);
    due(x.open(01, 2), 2);
    due(x.open(01, 3), 3);
    due(x.ofFile(1, 7), 4);
    due(x.house(6), 4);
    due(x.ofHandle(3, 1), 3);
    due(x.ofHandle(3, 2), 0);
    due(x.open(02, 0), TREE);
    due(x.open(0, 0), TREE);
    due(x.open(04, 0), NO);
    due(x.open(011, 0), FLAT);
    x.makeSoft(04, 04);
    due(x.open(04, 0), ROUND);
    x.seek(1, 5);
    x.lock(1, 0, 5, true);
    x.lock(2, 0, 5, true);
    x.close(1);
    x.close(2);
    due(x.open(01, 2), 1);
    due(x.ofHandle(1, 2), 0);
    due(x.ofHandle(1, 3), 0);
    due(x.open(01, 2), 2);
    due(x.ofHandle(2, 4), 0);
    due(x.open(01, 0), 4);
    due(x.open(01, 0), 5);
    due(x.open(01, 0), FULL);
    x.be(3);
    due(x.open(01, 1), SHUT);
    due(x.open(01, 2), SHUT);
    due(x.open(01, 3), SHUT);
    due(x.open(01, 0), FULL);
    x.be(0);
    x.rights(01, 63 - 2);
    x.be(3);
    due(x.open(01, 0), SHUT);
    due(x.open(01, 2), SHUT);
    due(x.open(01, 1), FULL);
    dueThrow(ARGUMENT, () -> x.open(01, 4));
    dueThrow(ARGUMENT, () -> x.open(01, -1));
    dueThrow(ARGUMENT, () -> x.open(010, 0));
    due(x.house(11), 19);
  }

  private static void promise17() {
    Memoryfiles x = new Memoryfiles();
    x.makeFile(01);
    x.open(01, 2);
    x.open(01, 2);
    x.lock(0, 0, 8, true);
    due(x.lock(1, 0, 8, false), HELD);
    x.write(0, 7, 1);
    due(x.close(0), 0);
    due(x.lock(1, 0, 8, false), 1);
    dueThrow(INDEX, () -> x.close(0));
    dueThrow(INDEX, () -> x.close(6));
    dueThrow(INDEX, () -> x.close(-1));
    x.open(01, 0);
    due(x.unlink(01), 0);
    due(x.close(0), 0);
    due(x.house(5), 63);
    int before = x.house(7);
    due(x.close(1), 1);
    due(x.house(7), before + 4);
    due(x.house(5), 64);
    due(x.house(4), 1);
    due(x.makeFile(02), 1);
  }

  private static void promise18() {
    Memoryfiles x = new Memoryfiles();
    x.makeFile(01);
    x.open(01, 2);
    due(x.seek(0, 80), 0);
    due(x.seek(0, 7), 80);
    due(x.ofHandle(0, 2), 7);
    due(x.write(0, 3, 1), 8);
    due(x.ofFile(1, 5), 8);
    dueThrow(INDEX, () -> x.seek(1, 81));
    dueThrow(INDEX, () -> x.seek(-1, 0));
    dueThrow(ARGUMENT, () -> x.seek(0, 81));
    dueThrow(ARGUMENT, () -> x.seek(0, -1));
    due(x.seek(0, 0), 8);
  }

  private static void promise19() {
    Memoryfiles x = new Memoryfiles();
    x.makeFile(01);
    int w = x.open(01, 1);
    int a = x.open(01, 3);
    int r = x.open(01, 0);
    x.write(w, 123456789, 9);
    x.seek(w, 30);
    x.write(w, 42, 2);
    due(x.read(w, 1), "-5");
    due(x.read(a, 1), "-5");
    due(x.read(r, 8), "12345678");
    due(x.house(13), 1);
    due(x.read(r, 20), "90000000000000000000");
    // A HOLE is no BLOCK that is touched.
    due(x.house(13), 3);
    due(x.ofHandle(r, 2), 28);
    due(x.read(r, 20), "0042");
    due(x.ofHandle(r, 2), 32);
    due(x.read(r, 20), "");
    x.seek(r, 60);
    due(x.read(r, 20), "");
    due(x.ofHandle(r, 2), 60);
    due(x.house(12), 1);
    x.seek(r, 7);
    due(x.read(r, 2), "89");
    due(x.house(12), 3);
    due(x.house(13), 3);
    dueThrow(INDEX, () -> x.read(5, 0));
    dueThrow(INDEX, () -> x.read(-1, 1));
    dueThrow(ARGUMENT, () -> x.read(r, 0));
    dueThrow(ARGUMENT, () -> x.read(r, 21));
    x.lock(w, 12, 14, true);
    x.lock(w, 0, 1, false);
    x.seek(r, 0);
    due(x.read(r, 12), "123456789000");
    x.seek(r, 0);
    due(x.read(r, 13), "-12");
    x.seek(r, 13);
    due(x.read(r, 1), "-12");
    due(x.ofHandle(r, 2), 13);
    x.seek(r, 14);
    due(x.read(r, 1), "0");
    // A LOCK behind SIZE forbids it, too.
    x.lock(w, 40, 41, true);
    x.seek(r, 31);
    due(x.read(r, 10), "-12");
    due(x.read(r, 9), "2");
  }

  private static void promise19Cache() {
    Memoryfiles x = new Memoryfiles();
    x.makeFile(01);
    x.open(01, 2);
    writeMany(x, 0, 0, 48);
    x.seek(0, 0);
    x.read(0, 20);
    x.read(0, 12);
    due(x.house(13), 4);
    due(x.house(12), 1);
    for (int block = 0; block < 4; block++) {
      due(x.ofBlock(block, 3), 1);
    }
    x.seek(0, 0);
    x.read(0, 1);
    due(x.house(12), 2);
    x.seek(0, 32);
    x.read(0, 1);
    due(x.ofBlock(0, 3), 1);
    due(x.ofBlock(1, 3), 0);
    due(x.ofBlock(2, 3), 1);
    x.cut(01, 0);
    due(x.ofBlock(0, 3), 1);
    due(x.ofBlock(0, 0), 0);
    x.seek(0, 0);
    x.write(0, 1, 1);
    x.seek(0, 0);
    x.read(0, 1);
    due(x.house(12), 3);
    x.crash(0);
    due(x.house(12), 3);
    due(x.house(13), 5);
    x.mend();
    due(x.ofBlock(0, 3), 0);
    due(x.house(12), 3);
  }

  /** Where no BYTES are told no BLOCK is touched. */
  private static void promise19End() {
    Memoryfiles x = new Memoryfiles();
    x.makeFile(01);
    x.open(01, 2);
    x.write(0, 12345, 5);
    due(x.read(0, 3), "");
    due(x.house(13), 0);
    due(x.ofBlock(0, 3), 0);
    x.seek(0, 4);
    due(x.read(0, 3), "5");
    due(x.house(13), 1);
  }

  private static void promise20() {
    Memoryfiles x = new Memoryfiles();
    x.makeFile(01);
    x.open(01, 1);
    x.open(01, 0);
    x.open(01, 3);
    x.tick(3);
    due(x.write(0, 2147483647, 3), 3);
    due(x.ofFile(1, 3), 3);
    due(x.write(0, 5, 4), 7);
    due(x.read(1, 20), "6470005");
    due(x.write(1, 1, 1), SHUT);
    due(x.write(2, 1234567, 2), 9);
    due(x.seek(2, 1), 9);
    due(x.write(2, 8, 1), 10);
    x.seek(1, 5);
    due(x.read(1, 20), "05678");
    due(x.ofFile(1, 6), 2);
    x.seek(0, 78);
    due(x.write(0, 123, 3), FULL);
    due(x.ofHandle(0, 2), 78);
    due(x.write(0, 12, 2), 80);
    due(x.write(2, 1, 1), FULL);
    due(x.ofHandle(2, 2), 10);
    due(x.ofFile(1, 6), 3);
    dueThrow(INDEX, () -> x.write(3, -1, 0));
    dueThrow(ARGUMENT, () -> x.write(0, -1, 1));
    dueThrow(ARGUMENT, () -> x.write(1, 1, 0));
    dueThrow(ARGUMENT, () -> x.write(0, 1, 10));
    x.seek(0, 4);
    x.lock(1, 6, 7, false);
    due(x.write(0, 111, 3), HELD);
    due(x.write(0, 11, 2), 6);
    x.seek(0, 7);
    due(x.write(0, 1, 1), 8);
    x.unlock(1);
    x.lock(0, 0, 80, true);
    x.seek(0, 0);
    due(x.write(0, 999999999, 9), 9);
    int before = x.house(11);
    x.seek(0, 0);
    due(x.write(0, 999999999, 9), 9);
    due(x.house(11), before);
  }

  /** BLOCKS that others have are not WRITTEN, and what does not fit changes nothing at all. */
  private static void promise20Blocks() {
    Memoryfiles x = new Memoryfiles();
    x.makeFile(01);
    x.open(01, 2);
    x.write(0, 12345678, 8);
    x.copyTree(01, 02);
    due(x.ofBlock(0, 0), 2);
    x.seek(0, 0);
    due(x.write(0, 1, 1), 1);
    due(x.ofBlock(0, 0), 1);
    due(x.ofBlock(1, 0), 1);
    due(x.ofBlock(1, 2), 36);
    due(x.compare(01, 02), 1);
    x.copyTree(01, 03);
    x.quota(0, 3);
    x.tick(1);
    x.seek(0, 7);
    due(x.write(0, 77, 2), FULL);
    due(x.ofFile(1, 5), 8);
    due(x.ofFile(1, 6), 1);
    due(x.ofFile(1, 3), 0);
    due(x.ofBlock(1, 0), 2);
    due(x.ofHandle(0, 2), 7);
    due(x.house(5), 62);
    x.quota(0, 4);
    due(x.write(0, 77, 2), 9);
    due(x.house(5), 60);
    due(x.isSound() ? 1 : 0, 1);
    // None is free any more.
    Memoryfiles y = new Memoryfiles();
    for (int name = 1; name <= 5; name++) {
      y.makeFile(name);
      writeMany(y, y.open(name, 1), 0, 80);
    }
    y.unlink(05);
    y.close(4);
    due(y.house(5), 24);
    y.makeDirectory(05);
    for (int name = 1; name <= 2; name++) {
      y.makeFile(050 + name);
      writeMany(y, y.open(050 + name, 1), 0, 80);
      y.close(4);
    }
    y.makeFile(053);
    y.open(053, 1);
    writeMany(y, 4, 0, 24);
    due(y.write(4, 123456789, 9), FULL);
    due(y.write(4, 1234567, 8), 32);
    due(y.write(4, 1, 1), FULL);
    due(y.house(5), 0);
    due(y.isSound() ? 1 : 0, 1);
  }

  private static void promise21() {
    Memoryfiles x = new Memoryfiles();
    x.makeFile(01);
    x.makeFile(02);
    for (int handle = 0; handle < 3; handle++) {
      x.open(01, 2);
    }
    x.open(02, 2);
    due(x.lock(0, 0, 10, false), 1);
    due(x.lock(1, 5, 15, false), 1);
    due(x.lock(2, 9, 10, true), HELD);
    due(x.ofHandle(2, 4), 1);
    due(x.lock(2, 15, 16, true), 1);
    due(x.ofHandle(2, 4), 0);
    due(x.lock(3, 0, 80, true), 1);
    due(x.lock(0, 0, 10, true), HELD);
    due(x.lock(0, 0, 5, true), 2);
    due(x.lock(0, 0, 5, true), 3);
    due(x.lock(1, 4, 5, false), HELD);
    due(x.lock(0, 20, 21, true), 4);
    due(x.lock(0, 15, 16, false), HELD);
    due(x.ofHandle(0, 4), 1);
    due(x.lock(0, 30, 31, false), FULL);
    due(x.ofHandle(0, 4), 1);
    due(x.ofHandle(0, 3), 4);
    due(x.lock(0, 15, 17, true), HELD);
    dueThrow(INDEX, () -> x.lock(4, -1, 0, true));
    dueThrow(INDEX, () -> x.lock(6, 0, 1, true));
    dueThrow(ARGUMENT, () -> x.lock(0, -1, 1, true));
    dueThrow(ARGUMENT, () -> x.lock(0, 80, 81, true));
    dueThrow(ARGUMENT, () -> x.lock(0, 5, 5, true));
    dueThrow(ARGUMENT, () -> x.lock(0, 5, 81, true));
    due(x.lock(1, 79, 80, true), 2);
  }

  private static void promise21Ring() {
    Memoryfiles x = new Memoryfiles();
    x.makeFile(01);
    for (int handle = 0; handle < 4; handle++) {
      x.open(01, 2);
      x.lock(handle, handle, handle + 1, true);
    }
    x.lock(0, 1, 2, true);
    x.lock(1, 2, 3, false);
    due(x.ofHandle(0, 5), 0);
    x.lock(3, 0, 1, true);
    x.lock(2, 0, 1, true);
    due(x.ofHandle(0, 5), 1);
    due(x.ofHandle(1, 5), 1);
    due(x.ofHandle(2, 5), 1);
    // It comes to a ring, but not back to itself.
    due(x.ofHandle(3, 5), 0);
    due(x.ofHandle(3, 4), 1);
    x.unlock(1);
    due(x.ofHandle(0, 4), 1);
    due(x.ofHandle(0, 5), 0);
    due(x.ofHandle(2, 5), 0);
    x.close(0);
    due(x.ofHandle(2, 4), 1);
    due(x.ofHandle(0, 5), NONE);
  }

  /** It WAITS for what MEETS its LOCK alone: one that both would share does not. */
  private static void promise21Shared() {
    Memoryfiles x = new Memoryfiles();
    x.makeFile(01);
    x.open(01, 2);
    x.open(01, 2);
    x.lock(0, 0, 1, false);
    x.lock(1, 5, 6, true);
    due(x.lock(0, 5, 6, false), HELD);
    due(x.lock(1, 0, 1, true), HELD);
    due(x.ofHandle(0, 5), 1);
    due(x.ofHandle(1, 5), 1);
    due(x.unlock(1), 1);
    due(x.lock(1, 5, 6, false), 1);
    due(x.lock(1, 0, 1, true), HELD);
    due(x.ofHandle(0, 4), 1);
    due(x.ofHandle(0, 5), 0);
    due(x.ofHandle(1, 5), 0);
  }

  private static void promise22() {
    Memoryfiles x = new Memoryfiles();
    x.makeFile(01);
    x.open(01, 0);
    x.open(01, 0);
    x.lock(0, 0, 3, true);
    x.lock(0, 5, 9, false);
    due(x.lock(1, 0, 1, false), HELD);
    due(x.unlock(1), 0);
    due(x.ofHandle(1, 4), 0);
    due(x.unlock(0), 2);
    due(x.unlock(0), 0);
    due(x.lock(1, 0, 80, true), 1);
    dueThrow(INDEX, () -> x.unlock(2));
    dueThrow(INDEX, () -> x.unlock(-1));
    dueThrow(INDEX, () -> x.unlock(6));
  }

  private static void promise23() {
    Memoryfiles x = new Memoryfiles();
    x.makeFile(01);
    due(x.crash(0), DOWN);
    due(x.house(10), 1);
    x.mend();
    due(x.crash(500), 0);
    due(x.house(9), 500);
    due(x.crash(3), 0);
    dueThrow(ARGUMENT, () -> x.crash(-1));
    dueThrow(ARGUMENT, () -> x.crash(501));
    due(x.house(9), 3);
    due(x.makeFile(02), DOWN);
    due(x.house(7), 0);
    due(x.mend(), 0);
    due(x.find(02, true), NO);
    due(x.house(9), NONE);
    // All but the CLOCK, counts, DISK and JOURNAL is lost.
    x.open(01, 2);
    x.be(2);
    x.tick(4);
    x.makeDirectory(03);
    x.go(03);
    x.knock();
    x.crash(0);
    int[] want = {0, 0, 4, NONE, 0, 0, 0, 4, 0, NONE, 1, 11, 0, 0, 0, 0, 0, 1};
    for (int what = 0; what <= 17; what++) {
      due(x.house(what), want[what]);
    }
    due(x.mend(), 1);
    due(x.house(0), 0);
    due(x.house(1), 0);
    due(x.house(6), 0);
    due(x.ofFile(2, 1), 2);
  }

  /** The machine goes DOWN behind each of the WRITES of one run: what stands is that of the calls with an END. */
  private static void promise23Each() {
    int[] ends = {4, 8, 12};
    for (int writes = 1; writes <= 16; writes++) {
      Memoryfiles x = new Memoryfiles();
      x.crash(writes);
      int first = x.makeFile(01);
      x.open(01, 1);
      x.write(0, 12345678, 8);
      x.tick(1);
      x.write(0, 9, 1);
      due(first, writes <= ends[0] ? DOWN : 1);
      if (writes > ends[2]) {
        due(x.house(10), 0);
        due(x.house(9), writes - ends[2]);
        x.crash(0);
      }
      due(x.house(11), Math.min(writes, ends[2]));
      int calls = Math.min(writes / 4, 3);
      due(x.house(7), 4 * calls);
      due(x.mend(), calls);
      due(x.find(01, true), calls == 0 ? NO : 1);
      if (calls > 0) {
        due(x.ofFile(1, 5), new int[] {0, 0, 8, 9}[calls]);
      }
      due(x.house(5), new int[] {64, 64, 63, 62}[calls]);
      due(x.house(8), 0);
      due(x.isSound() ? 1 : 0, 1);
    }
  }

  private static void promise24() {
    Memoryfiles x = new Memoryfiles();
    dueThrow(STATE, () -> x.mend());
    x.makeFile(01);
    x.makeFile(02);
    x.makeDirectory(03);
    int h = x.open(01, 2);
    x.write(h, 5, 1);
    x.unlink(01);
    due(x.ofFile(1, 8), 0);
    x.harm(false, 2);
    x.crash(0);
    due(x.mend(), 5);
    dueThrow(STATE, () -> x.mend());
    due(x.house(7), 0);
    due(x.house(8), 0);
    due(x.ofFile(1, 8), 1);
    due(x.house(16), 1);
    due(x.check(), "");
    x.makeFile(04);
    x.crash(0);
    due(x.mend(), 1);
    due(x.ofFile(1, 8), 1);
    due(x.find(04, true), 4);
    due(x.isSound() ? 1 : 0, 1);
  }

  private static void promise25() {
    Memoryfiles x = new Memoryfiles();
    dueThrow(INDEX, () -> x.back(0));
    x.makeFile(01);
    x.quota(2, 3);
    x.keep(1);
    due(x.house(8), 4);
    dueThrow(INDEX, () -> x.back(-1));
    dueThrow(INDEX, () -> x.back(4));
    due(x.house(11), 10);
    due(x.back(3), 3);
    due(x.house(11), 11);
    due(x.house(7), 10);
    due(x.back(0), 2);
    // The first one that is left is the FILE 1 then.
    x.rights(01, 0);
    due(x.house(8), 2);
    due(x.back(1), 1);
    x.quota(2, 4);
    due(x.house(8), 2);
    x.crash(1);
    due(x.back(0), DOWN);
    due(x.house(10), 1);
    due(x.back(7), DOWN);
    due(x.mend(), 5);
    due(x.ofFile(1, 2), 0);
    due(x.ofUser(2, true), 4);
    due(x.house(15), 2);
  }

  private static void promise26() {
    Memoryfiles x = new Memoryfiles();
    due(x.flush(), 0);
    due(x.house(11), 1);
    x.makeFile(01);
    due(x.flush(), 4);
    due(x.house(11), 8);
    due(x.house(7), 0);
    due(x.house(8), 0);
    x.makeFile(02);
    x.crash(2);
    due(x.flush(), DOWN);
    due(x.house(7), 4);
    due(x.mend(), 1);
    due(x.find(02, true), 2);
    x.makeFile(03);
    x.crash(3);
    due(x.flush(), DOWN);
    due(x.house(7), 0);
    due(x.mend(), 0);
    due(x.find(03, true), 3);
    due(x.isSound() ? 1 : 0, 1);
  }

  /** The JOURNAL is FLUSHED by itself as it would have more than 160 RECORDS. */
  private static void promise26Room() {
    for (int writes = 0; writes <= 8; writes++) {
      Memoryfiles x = new Memoryfiles();
      for (int i = 0; i < 40; i++) {
        due(i % 2 == 0 ? x.makeFile(01) : x.unlink(01), i % 2 == 0 ? 1 : 0);
      }
      due(x.house(7), 160);
      due(x.house(11), 160);
      due(x.house(8), 2);
      if (writes == 0) {
        x.quota(1, 1);
        due(x.house(7), 3);
        due(x.house(11), 166);
        due(x.house(8), 1);
        x.crash(0);
        due(x.mend(), 1);
        due(x.ofUser(1, true), 1);
      } else {
        x.crash(writes);
        due(x.quota(1, 1), writes <= 6 ? DOWN : 64);
        due(x.house(7), writes < 3 ? 160 : writes < 6 ? 0 : 3);
        if (writes <= 6) {
          due(x.mend(), writes < 3 ? 40 : writes < 6 ? 0 : 1);
        }
        due(x.ofUser(1, true), writes < 6 ? 64 : 1);
      }
      due(x.isSound() ? 1 : 0, 1);
    }
    // With just 160 it is not.
    Memoryfiles y = new Memoryfiles();
    for (int i = 0; i < 52; i++) {
      y.quota(3, i);
    }
    due(y.house(7), 156);
    y.makeFile(01);
    due(y.house(7), 160);
    due(y.house(11), 160);
    y.rights(01, 0);
    due(y.house(7), 3);
    due(y.house(11), 160 + 3 + 1 + 3);
  }

  private static void promise27() {
    Memoryfiles x = new Memoryfiles();
    x.makeFile(01);
    x.open(01, 2);
    x.write(0, 12345, 5);
    due(x.keep(0), 2);
    due(x.house(14), 2);
    due(x.house(15), 0);
    due(x.ofBlock(0, 0), 2);
    due(x.ofUser(0, false), 1);
    int before = x.house(11);
    due(x.keep(0), 2);
    due(x.house(11), before);
    due(x.keep(1), 2);
    due(x.ofBlock(0, 0), 3);
    x.unlink(01);
    due(x.keep(0), 2);
    x.close(0);
    due(x.keep(0), 1);
    due(x.ofBlock(0, 0), 1);
    due(x.keep(1), 1);
    due(x.house(5), 64);
    dueThrow(INDEX, () -> x.keep(2));
    dueThrow(INDEX, () -> x.keep(-1));
    x.be(1);
    due(x.keep(0), SHUT);
    dueThrow(INDEX, () -> x.keep(2));
  }

  private static void promise28() {
    Memoryfiles x = new Memoryfiles();
    due(x.drop(0), 0);
    due(x.house(11), 0);
    x.makeFile(01);
    x.open(01, 2);
    writeMany(x, 0, 0, 24);
    x.keep(1);
    x.cut(01, 8);
    due(x.house(5), 61);
    due(x.drop(0), 0);
    due(x.drop(1), 2);
    due(x.house(5), 63);
    due(x.house(15), 0);
    due(x.slotByte(1, 01, 0), NO);
    due(x.drop(1), 0);
    dueThrow(INDEX, () -> x.drop(2));
    dueThrow(INDEX, () -> x.drop(-1));
    x.be(2);
    due(x.drop(0), SHUT);
    due(x.isSound() ? 1 : 0, 1);
  }

  private static void promise29() {
    Memoryfiles x = new Memoryfiles();
    x.makeDirectory(01);
    x.makeFile(012);
    x.makeSoft(013, 02);
    x.makeSoft(04, -013);
    x.makeSoft(05, 05);
    x.open(012, 2);
    x.write(0, 12345, 5);
    x.seek(0, 20);
    x.write(0, 7, 1);
    x.rights(01, 0);
    x.keep(0);
    x.cut(012, 0);
    x.unlink(04);
    x.go(01);
    x.be(3);
    due(x.slotByte(0, 012, 1), 2);
    due(x.slotByte(0, -012, 4), 5);
    due(x.slotByte(0, 013, 4), 5);
    due(x.slotByte(0, 04, 20), 7);
    due(x.slotByte(0, 0172, 10), NO);
    due(x.slotByte(0, 01712, 10), 0);
    due(x.slotByte(0, 012, 21), NONE);
    due(x.slotByte(0, 012, 79), NONE);
    due(x.slotByte(0, 02, 0), NO);
    due(x.slotByte(0, 0121, 0), FLAT);
    due(x.slotByte(0, 05, 0), ROUND);
    due(x.slotByte(0, 01, 0), TREE);
    due(x.slotByte(0, 0, 0), TREE);
    due(x.slotByte(1, 012, 0), NO);
    dueThrow(INDEX, () -> x.slotByte(2, 010, 0));
    dueThrow(INDEX, () -> x.slotByte(-1, 0, 0));
    dueThrow(ARGUMENT, () -> x.slotByte(0, 010, 0));
    dueThrow(ARGUMENT, () -> x.slotByte(0, 0, 80));
    dueThrow(ARGUMENT, () -> x.slotByte(1, 0, -1));
  }

  private static void promise30() {
    Memoryfiles x = new Memoryfiles();
    x.makeDirectory(01);
    x.makeDirectory(012);
    x.makeFile(0121);
    x.link(0121, 011);
    x.makeSoft(013, 011);
    x.open(011, 2);
    x.write(0, 12345678, 8);
    x.rights(011, 62);
    x.rights(012, 63);
    x.tick(9);
    x.be(1);
    due(x.copyTree(01, 02), 5);
    due(x.list(02, 1), "abc");
    // What is copied first, then NAME by NAME: a, b with its a, c.
    due(x.wayOf(5), "/b");
    due(x.wayOf(6), "/b/a");
    due(x.wayOf(7), "/b/b");
    due(x.wayOf(8), "/b/b/a");
    due(x.wayOf(9), "/b/c");
    int[] want = {0, 1, 62, 9, 1, 8, 1, 0, 0};
    for (int what = 0; what <= 8; what++) {
      due(x.ofFile(8, what), want[what]);
    }
    due(x.ofFile(9, 5), 011);
    due(x.ofFile(7, 2), 63);
    due(x.ofBlock(0, 0), 3);
    due(x.ofBlock(0, 1), 0);
    due(x.ofUser(1, false), 0);
    due(x.ofFile(0, 3), 9);
    due(x.compare(01, 02), 1);
    due(x.find(0277, true), 0);
    due(x.copyTree(013, 03), 1);
    due(x.ofFile(10, 0), 2);
    due(x.copyTree(04, 05), NO);
    due(x.copyTree(0111, 05), FLAT);
    due(x.copyTree(01, 041), NO);
    due(x.copyTree(01, 0111), FLAT);
    due(x.copyTree(01, 02), THERE);
    x.be(0);
    due(x.copyTree(01, 014), WITHIN);
    due(x.copyTree(01, 0124), WITHIN);
    due(x.copyTree(0, 05), WITHIN);
    due(x.copyTree(011, 0124), 1);
    due(x.copyTree(02, 05), 5);
    due(x.copyTree(02, 04), 5);
    due(x.copyTree(02, 014), 5);
    due(x.house(4), 27);
    int before = x.house(11);
    due(x.copyTree(02, 015), FULL);
    due(x.house(11), before);
    due(x.copyTree(022, 015), 2);
    due(x.house(4), 29);
    due(x.isSound() ? 1 : 0, 1);
    dueThrow(ARGUMENT, () -> x.copyTree(010, 01));
    dueThrow(ARGUMENT, () -> x.copyTree(01, 0));
  }

  private static void promise30Rights() {
    Memoryfiles x = new Memoryfiles();
    x.makeDirectory(01);
    x.makeDirectory(012);
    x.makeSoft(0121, 0);
    x.rights(01, 63);
    x.be(2);
    due(x.copyTree(01, 03), 3);
    x.be(0);
    // Not its PATH is READ, but the FILE 3 (SOFT) may not be READ: that does not count.
    x.makeFile(0122);
    x.rights(0122, 61);
    x.be(2);
    due(x.copyTree(01, 04), SHUT);
    due(x.copyTree(0122, 04), SHUT);
    x.be(0);
    x.rights(0122, 2);
    x.rights(012, 61);
    x.be(2);
    due(x.copyTree(01, 04), SHUT);
    due(x.copyTree(01, 03), THERE);
    due(x.copyTree(0122, 04), SHUT);
    x.be(0);
    x.rights(012, 2);
    x.be(2);
    due(x.copyTree(01, 04), 4);
    due(x.copyTree(01, 0123), SHUT);
    x.be(1);
    due(x.copyTree(01, 05), SHUT);
    x.makeSoft(05, 05);
    due(x.copyTree(051, 0444), ROUND);
    due(x.copyTree(05, 051), ROUND);
  }

  /** Just so many FILES as there are numbers left. */
  private static void promise30Full() {
    Memoryfiles x = new Memoryfiles();
    for (int outer = 1; outer <= 4; outer++) {
      x.makeDirectory(outer);
      for (int name = 1; name <= 5; name++) {
        x.makeFile(outer * 8 + name);
      }
    }
    due(x.house(4), 25);
    due(x.copyTree(01, 05), FULL);
    x.unlink(015);
    due(x.copyTree(01, 05), 5);
    due(x.house(4), 29);
    due(x.copyTree(011, 055), 1);
    due(x.copyTree(011, 015), FULL);
  }

  private static void promise31() {
    Memoryfiles x = new Memoryfiles();
    x.makeDirectory(01);
    x.makeDirectory(012);
    x.makeFile(0121);
    x.link(0121, 011);
    x.link(011, 03);
    x.makeSoft(013, 01);
    x.makeFile(014);
    x.open(014, 2);
    x.write(0, 5, 1);
    x.go(012);
    x.tick(2);
    due(x.removeTree(-01), 6);
    due(x.house(1), 0);
    due(x.ofFile(3, 4), 1);
    due(x.ofFile(5, 4), 0);
    due(x.house(4), 3);
    due(x.ofFile(0, 3), 2);
    due(x.close(0), 1);
    due(x.house(5), 64);
    due(x.removeTree(03), 1);
    due(x.house(4), 1);
    due(x.removeTree(03), NO);
    due(x.removeTree(031), NO);
    x.makeFile(03);
    due(x.removeTree(031), FLAT);
    x.makeSoft(05, 05);
    due(x.removeTree(051), ROUND);
    due(x.isSound() ? 1 : 0, 1);
    dueThrow(ARGUMENT, () -> x.removeTree(0));
    dueThrow(ARGUMENT, () -> x.removeTree(016));
    x.makeDirectory(01);
    x.makeDirectory(012);
    x.makeFile(0123);
    x.rights(01, 63);
    x.be(2);
    due(x.removeTree(01), SHUT);
    due(x.removeTree(0123), SHUT);
    due(x.list(01, 1), "b");
    x.be(0);
    x.unlink(0123);
    x.be(2);
    // A DIRECTORY without NAMES need not be WRITTEN.
    due(x.removeTree(01), 2);
  }

  private static void promise32() {
    Memoryfiles x = new Memoryfiles();
    x.makeFile(01);
    x.makeFile(02);
    due(x.compare(01, 02), 1);
    x.open(01, 2);
    x.open(02, 2);
    x.write(0, 0, 9);
    x.cut(02, 8);
    due(x.compare(01, 02), 0);
    x.cut(02, 9);
    due(x.compare(01, 02), 1);
    x.seek(1, 3);
    x.write(1, 1, 1);
    due(x.compare(01, 02), 0);
    due(x.compare(02, 02), 1);
    due(x.compare(01, 03), NO);
    due(x.compare(03, 011), NO);
    due(x.compare(011, 03), FLAT);
    x.makeSoft(03, 02);
    x.makeSoft(04, 02);
    x.makeSoft(05, -02);
    due(x.compare(03, 04), 1);
    due(x.compare(03, 05), 0);
    due(x.compare(03, 02), 0);
    x.unlink(05);
    x.makeDirectory(05);
    x.makeDirectory(051);
    x.makeDirectory(052);
    due(x.compare(051, 052), 1);
    due(x.compare(05, 051), 0);
    x.makeFile(0511);
    due(x.compare(051, 052), 0);
    x.makeFile(0522);
    due(x.compare(051, 052), 0);
    x.move(0522, 0521);
    due(x.compare(051, 052), 1);
    x.cut(0521, 1);
    due(x.compare(051, 052), 0);
    due(x.compare(0, -06), 1);
    due(x.compare(0, 05), 0);
    x.cut(0511, 1);
    x.rights(051, 0);
    x.rights(0521, 0);
    x.be(1);
    due(x.compare(051, 052), 1);
    due(x.compare(0511, 01), SHUT);
    due(x.compare(01, 0511), SHUT);
    dueThrow(ARGUMENT, () -> x.compare(010, 01));
    dueThrow(ARGUMENT, () -> x.compare(01, 010));
    x.be(0);
    x.unlink(03);
    x.makeSoft(03, 03);
    due(x.compare(031, 010 + 1), ROUND);
  }

  private static Memoryfiles withLost() {
    Memoryfiles x = new Memoryfiles();
    x.makeFile(01);
    x.makeFile(02);
    x.makeFile(03);
    x.open(01, 2);
    x.open(02, 2);
    x.write(0, 7, 1);
    x.unlink(01);
    x.unlink(02);
    x.crash(0);
    x.mend();
    return x;
  }

  private static void promise33() {
    Memoryfiles x = withLost();
    due(x.house(16), 2);
    x.tick(5);
    dueThrow(INDEX, () -> x.adopt(3, 01));
    dueThrow(INDEX, () -> x.adopt(0, 010));
    dueThrow(INDEX, () -> x.adopt(30, 01));
    dueThrow(INDEX, () -> x.adopt(-1, 01));
    dueThrow(ARGUMENT, () -> x.adopt(1, 010));
    dueThrow(ARGUMENT, () -> x.adopt(1, 06));
    due(x.adopt(1, 03), THERE);
    due(x.adopt(1, 031), FLAT);
    due(x.adopt(1, 041), NO);
    x.makeDirectory(05);
    x.makeSoft(04, 04);
    due(x.adopt(1, 041), ROUND);
    x.be(2);
    due(x.adopt(1, 051), SHUT);
    x.be(0);
    due(x.adopt(1, 052), 1);
    due(x.ofFile(1, 4), 1);
    due(x.ofFile(1, 8), 0);
    due(x.ofFile(1, 3), 0);
    due(x.ofFile(4, 3), 5);
    due(x.wayOf(1), "/e/b");
    dueThrow(INDEX, () -> x.adopt(1, 01));
    due(x.house(16), 1);
    int h = x.open(052, 0);
    due(x.unlink(052), 0);
    due(x.ofFile(1, 8), 0);
    dueThrow(INDEX, () -> x.adopt(1, 01));
    due(x.close(h), 1);
    due(x.isSound() ? 1 : 0, 1);
  }

  private static void promise34() {
    Memoryfiles x = withLost();
    due(x.house(5), 63);
    x.be(3);
    due(x.purge(), 2);
    due(x.house(5), 64);
    due(x.house(4), 2);
    due(x.house(16), 0);
    int before = x.house(11);
    due(x.purge(), 0);
    due(x.house(11), before);
    due(x.makeFile(05), 1);
    due(x.ofFile(1, 8), 0);
    // A FILE without LINKS that a HANDLE has open is not LOST.
    x.open(05, 0);
    x.unlink(05);
    due(x.purge(), 0);
    due(x.close(0), 1);
    Memoryfiles y = withLost();
    y.crash(4);
    due(y.purge(), DOWN);
    y.mend();
    due(y.house(16), 2);
    y.crash(5);
    due(y.purge(), DOWN);
    y.mend();
    due(y.house(16), 0);
  }

  private static void promise35() {
    Memoryfiles x = new Memoryfiles();
    x.makeFile(01);
    x.open(01, 2);
    x.write(0, 1, 1);
    int before = x.house(11);
    due(x.harm(false, 0), 2);
    due(x.harm(false, 1), 2);
    due(x.harm(false, 1), 3);
    due(x.harm(true, 0), 2);
    due(x.house(11), before);
    due(x.ofFile(1, 4), 3);
    due(x.ofBlock(0, 0), 2);
    due(x.isSound() ? 1 : 0, 1);
    dueThrow(INDEX, () -> x.harm(false, 2));
    dueThrow(INDEX, () -> x.harm(false, -1));
    dueThrow(INDEX, () -> x.harm(false, 30));
    dueThrow(INDEX, () -> x.harm(true, 1));
    dueThrow(INDEX, () -> x.harm(true, 64));
    dueThrow(INDEX, () -> x.harm(true, -1));
    // No call looks at it: the BLOCK is WRITTEN as it is, and unlink() tells LINKS.
    x.seek(0, 0);
    x.write(0, 2, 1);
    due(x.ofBlock(0, 2), 2);
    due(x.link(01, 02), 2);
    due(x.unlink(02), 1);
    due(x.unlink(01), 0);
    due(x.close(0), 1);
    due(x.makeFile(01), 1);
    due(x.ofFile(1, 4), 1);
    x.harm(false, 1);
    x.crash(0);
    x.mend();
    due(x.ofFile(1, 4), 1);
  }

  private static void promise36() {
    Memoryfiles x = new Memoryfiles();
    due(x.repair(), 0);
    x.makeFile(01);
    x.open(01, 2);
    x.write(0, 123456789, 9);
    x.harm(false, 1);
    x.harm(false, 1);
    x.harm(false, 0);
    x.harm(true, 1);
    x.be(2);
    due(x.repair(), 3);
    due(x.repair(), 0);
    due(x.ofFile(1, 4), 1);
    due(x.ofBlock(1, 0), 1);
    x.harm(true, 0);
    x.harm(true, 1);
    x.be(0);
    x.cut(01, 5);
    due(x.repair(), 1);
  }

  private static void promise37() {
    Memoryfiles x = new Memoryfiles();
    x.makeDirectory(02);
    x.makeFile(021);
    x.open(021, 2);
    x.write(0, 123456789, 9);
    x.copyTree(021, 01);
    x.harm(true, 1);
    x.harm(false, 0);
    x.harm(false, 2);
    x.harm(false, 2);
    due(x.check(), "L/ L/b/a B1:/b/a");
    x.keep(0);
    x.unlink(021);
    due(x.check(), "L/ L?2 B1:?2");
    due(x.close(0), 1);
    due(x.check(), "L/ B1:/a");
    x.unlink(01);
    due(x.check(), "L/ B1:-");
    x.drop(0);
    due(x.check(), "L/");
    due(x.makeFile(01), 2);
    due(x.check(), "L/");
    x.repair();
    due(x.check(), "");
  }

  private static void promise38() {
    Memoryfiles x = new Memoryfiles();
    x.makeDirectory(01);
    x.makeDirectory(012);
    x.makeFile(0121);
    x.makeSoft(0123, 01);
    x.makeSoft(02, 012);
    due(x.find(0, true), 0);
    due(x.find(-07, true), 0);
    due(x.find(06767, false), 0);
    due(x.find(01267671, false), 1);
    due(x.find(0123, false), 4);
    due(x.find(0123, true), 3);
    due(x.find(0223, true), NO);
    due(x.find(021, true), 3);
    due(x.find(023, false), 4);
    due(x.find(023, true), 3);
    due(x.find(02, false), 5);
    due(x.find(0271, true), NO);
    due(x.find(0272, true), 2);
    due(x.find(01216, true), FLAT);
    due(x.find(01217, true), FLAT);
    due(x.find(03, true), NO);
    dueThrow(ARGUMENT, () -> x.find(010, true));
    dueThrow(ARGUMENT, () -> x.find(-010, true));
    dueThrow(ARGUMENT, () -> x.find(16777216, true));
    due(x.find(16777215, true), 0);
    due(x.find(-16777215, true), 0);
    x.rights(012, 63 - 2);
    x.be(2);
    due(x.find(012, true), 2);
    due(x.find(0126, true), SHUT);
    due(x.find(0121, true), SHUT);
    due(x.find(02, true), 2);
    due(x.find(021, true), SHUT);
    x.be(0);
    due(x.find(021, true), 3);
  }

  /** Eight SOFT ones may be gone for one PATH, the ninth is ROUND. */
  private static void promise38Round() {
    Memoryfiles x = new Memoryfiles();
    x.makeDirectory(01);
    x.makeSoft(011, 0);
    due(x.find(0111111, true), 1);
    due(x.find(01111111, true), 1);
    due(x.find(011111111, true), 1);
    x.go(01);
    due(x.find(011111111, true), 1);
    due(x.find(011111111, false), 2);
    x.makeSoft(02, 011);
    x.makeSoft(03, 02);
    due(x.find(03, true), 1);
    due(x.find(031111, true), 1);
    due(x.find(0311111, true), ROUND);
    due(x.find(0311111, false), 2);
    due(x.find(03111111, false), ROUND);
    due(x.find(031112, true), ROUND);
    due(x.find(031112, false), 3);
    // Each told PATH begins anew.
    due(x.compare(0311111, 0311111), 1);
    due(x.link(0311111, 0311114), 2);
    x.makeSoft(05, 05);
    due(x.find(05, true), ROUND);
    due(x.find(05, false), 5);
    due(x.find(051, false), ROUND);
  }

  private static void promise39() {
    Memoryfiles x = new Memoryfiles();
    x.makeDirectory(03);
    x.makeFile(01);
    x.makeSoft(05, 03);
    x.makeFile(032);
    due(x.list(0, 1), "ace");
    due(x.list(0, 2), "ce");
    due(x.list(0, 3), "ce");
    due(x.list(0, 5), "e");
    due(x.list(05, 1), "b");
    due(x.list(05, 3), "");
    due(x.list(01, 1), "-3");
    due(x.list(02, 1), "-2");
    due(x.list(011, 1), "-3");
    x.makeSoft(04, 04);
    due(x.list(04, 1), "-7");
    dueThrow(ARGUMENT, () -> x.list(010, 1));
    dueThrow(ARGUMENT, () -> x.list(0, 0));
    dueThrow(ARGUMENT, () -> x.list(0, 6));
    x.rights(03, 61);
    x.be(2);
    due(x.list(03, 1), "-5");
    due(x.list(0, 4), "de");
  }

  private static void promise40() {
    Memoryfiles x = new Memoryfiles();
    x.be(1);
    x.tick(3);
    x.makeFile(01);
    x.open(01, 2);
    x.open(01, 0);
    x.seek(0, 17);
    x.write(0, 5, 1);
    x.link(01, 02);
    x.harm(false, 1);
    int[] want = {0, 1, 58, 3, 3, 18, 1, 2, 0};
    for (int what = 0; what <= 8; what++) {
      due(x.ofFile(1, what), want[what]);
    }
    due(x.ofFile(0, 5), 2);
    dueThrow(INDEX, () -> x.ofFile(2, 9));
    dueThrow(INDEX, () -> x.ofFile(-1, 0));
    dueThrow(INDEX, () -> x.ofFile(30, 0));
    dueThrow(ARGUMENT, () -> x.ofFile(1, 9));
    dueThrow(ARGUMENT, () -> x.ofFile(1, -1));
  }

  private static void promise41() {
    Memoryfiles x = new Memoryfiles();
    due(x.wayOf(0), "/");
    x.makeDirectory(02);
    x.makeDirectory(01);
    x.makeFile(015);
    due(x.wayOf(3), "/a/e");
    x.link(015, 023);
    due(x.wayOf(3), "/b/c");
    x.link(015, 022);
    due(x.wayOf(3), "/b/b");
    x.link(015, 05);
    due(x.wayOf(3), "/e");
    due(x.wayOf(2), "/a");
    x.move(01, 024);
    due(x.wayOf(2), "/b/d");
    x.unlink(05);
    x.unlink(023);
    x.unlink(022);
    due(x.wayOf(3), "/b/d/e");
    x.open(0245, 0);
    x.unlink(0245);
    due(x.wayOf(3), "?3");
    dueThrow(INDEX, () -> x.wayOf(4));
    dueThrow(INDEX, () -> x.wayOf(-1));
    dueThrow(INDEX, () -> x.wayOf(30));
    Memoryfiles y = new Memoryfiles();
    for (int i = 1; i < 30; i++) {
      y.makeDirectory(01);
      y.go(01);
    }
    due(y.house(1), 29);
    due(y.wayOf(29).length(), 58);
    due(y.copyTree(-01, 02), WITHIN);
    due(y.compare(-01, -011), 0);
    due(y.removeTree(-01), 29);
    due(y.house(4), 1);
  }

  private static void promise42() {
    Memoryfiles x = new Memoryfiles();
    due(x.ofBlock(63, 0), 0);
    due(x.ofBlock(63, 1), NONE);
    due(x.ofBlock(63, 2), 0);
    due(x.ofBlock(63, 3), 0);
    x.be(2);
    x.makeFile(01);
    x.be(0);
    x.open(01, 2);
    x.write(0, 91, 2);
    due(x.ofBlock(0, 0), 1);
    due(x.ofBlock(0, 1), 2);
    due(x.ofBlock(0, 2), 10);
    due(x.ofBlock(0, 3), 0);
    x.seek(0, 0);
    x.read(0, 1);
    due(x.ofBlock(0, 3), 1);
    dueThrow(INDEX, () -> x.ofBlock(64, 9));
    dueThrow(INDEX, () -> x.ofBlock(-1, 0));
    dueThrow(ARGUMENT, () -> x.ofBlock(0, 4));
    dueThrow(ARGUMENT, () -> x.ofBlock(0, -1));
  }

  private static void promise43() {
    Memoryfiles x = new Memoryfiles();
    x.be(3);
    x.makeFile(01);
    x.open(01, 1);
    writeMany(x, 0, 0, 16);
    due(x.ofUser(3, false), 2);
    due(x.ofUser(0, false), 0);
    due(x.ofUser(3, true), 64);
    dueThrow(ARGUMENT, () -> x.ofUser(4, true));
    dueThrow(ARGUMENT, () -> x.ofUser(-1, false));
  }

  private static void promise44() {
    Memoryfiles x = new Memoryfiles();
    x.makeFile(01);
    x.makeFile(02);
    x.open(01, 0);
    x.open(02, 3);
    x.close(0);
    for (int what = 0; what <= 5; what++) {
      due(x.ofHandle(0, what), NONE);
      due(x.ofHandle(5, what), NONE);
    }
    x.seek(1, 9);
    x.lock(1, 0, 4, true);
    x.open(02, 0);
    due(x.lock(0, 0, 1, false), HELD);
    int[] want = {2, 3, 9, 1, 0, 0};
    int[] wait = {2, 0, 0, 0, 1, 0};
    for (int what = 0; what <= 5; what++) {
      due(x.ofHandle(1, what), want[what]);
      due(x.ofHandle(0, what), wait[what]);
    }
    dueThrow(INDEX, () -> x.ofHandle(6, 9));
    dueThrow(INDEX, () -> x.ofHandle(-1, 0));
    dueThrow(ARGUMENT, () -> x.ofHandle(5, 6));
    dueThrow(ARGUMENT, () -> x.ofHandle(0, -1));
  }

  private static void promise45() {
    Memoryfiles x = new Memoryfiles();
    x.makeDirectory(01);
    x.makeFile(02);
    x.watch(01);
    x.go(01);
    x.tick(6);
    x.be(2);
    x.open(-02, 0);
    x.be(0);
    x.open(-02, 1);
    x.write(1, 1, 9);
    x.keep(1);
    x.be(2);
    x.read(0, 9);
    x.seek(0, 0);
    x.read(0, 1);
    x.crash(77);
    x.knock();
    int[] want = {2, 1, 6, 1, 3, 62, 2, 18, 6, 77, 0, 18, 1, 2, 0, 3, 0, 1};
    for (int what = 0; what <= 17; what++) {
      due(x.house(what), want[what]);
    }
    dueThrow(ARGUMENT, () -> x.house(18));
    dueThrow(ARGUMENT, () -> x.house(-1));
    x.crash(0);
    int[] ruin = {0, 0, 6, NONE, 0, 0, 0, 18, 0, NONE, 1, 18, 1, 2, 0, 0, 0, 1};
    for (int what = 0; what <= 17; what++) {
      due(x.house(what), ruin[what]);
    }
    dueThrow(ARGUMENT, () -> x.house(18));
    dueThrow(ARGUMENT, () -> x.house(-1));
  }

  private static void promise46() {
    Memoryfiles x = new Memoryfiles();
    due(x.knock(), 1);
    due(x.knock(), 2);
    x.crash(0);
    due(x.knock(), 3);
    due(x.house(17), 3);
    x.mend();
    due(x.knock(), 4);
  }

  private static void promise47() {
    Memoryfiles x = withLost();
    due(x.isSound() ? 1 : 0, 1);
    x.harm(false, 3);
    due(x.isSound() ? 1 : 0, 1);
    x.crash(0);
    due(x.isSound() ? 1 : 0, 1);
  }

  /** The checksum, by what the other methods tell. */
  private static long digestOf(Memoryfiles x) {
    long d = 5900;
    for (int what = 0; what <= 17; what++) {
      d = d * 31 + x.house(what);
    }
    if (x.house(10) == 1) {
      return d;
    }
    for (int file = 0; file < 30; file++) {
      String way;
      try {
        way = x.wayOf(file);
      } catch (IndexOutOfBoundsException e) {
        continue;
      }
      d = d * 31 + file;
      for (int what = 0; what <= 8; what++) {
        d = d * 31 + x.ofFile(file, what);
      }
      d = d * 31 + way.length();
      for (char sign : bytesOf(x, file, way).toCharArray()) {
        d = d * 31 + (sign - '0');
      }
    }
    for (int block = 0; block < 64; block++) {
      if (x.ofBlock(block, 0) > 0) {
        d = d * 31 + block;
        for (int what = 0; what <= 3; what++) {
          d = d * 31 + x.ofBlock(block, what);
        }
      }
    }
    for (int user = 0; user <= 3; user++) {
      d = d * 31 + x.ofUser(user, true);
    }
    for (int handle = 0; handle <= 5; handle++) {
      for (int what = 0; what <= 5; what++) {
        d = d * 31 + x.ofHandle(handle, what);
      }
    }
    d = d * 31 + x.check().length();
    return d * 31 + (x.isSound() ? 1 : 0);
  }

  /** Of the DATA FILE that the test below has: its BYTES are known there. */
  private static String bytesOf(Memoryfiles x, int file, String way) {
    return x.ofFile(file, 0) == 0 ? "1234567800000000000042".substring(0, x.ofFile(file, 5)) : "";
  }

  /** A machine as it is behind so many steps: an object of its own for each, as one is used for 512 calls at most. */
  private static Memoryfiles afterSteps(int steps) {
    Memoryfiles x = new Memoryfiles();
    if (steps > 0) {
      x.be(1);
      x.makeDirectory(01);
      x.makeFile(012);
      x.makeSoft(013, -012);
      x.open(012, 2);
      x.open(012, 0);
      x.write(0, 12345678, 8);
    }
    if (steps > 1) {
      x.seek(0, 20);
      x.write(0, 42, 2);
      x.lock(0, 0, 5, true);
      x.lock(1, 0, 6, false);
      x.harm(false, 1);
      x.harm(true, 1);
      x.read(0, 3);
      x.seek(1, 19);
      x.read(1, 9);
      x.be(0);
      x.quota(2, 17);
      x.keep(1);
      x.crash(300);
    }
    if (steps > 2) {
      x.unlink(012);
    }
    if (steps > 3) {
      x.crash(0);
    }
    if (steps > 4) {
      x.mend();
    }
    return x;
  }

  private static void promise48() {
    for (int steps = 0; steps <= 5; steps++) {
      Memoryfiles x = afterSteps(steps);
      int before = x.house(11);
      due(x.digest(), digestOf(x));
      due(x.house(11), before);
    }
  }

  /** As it is DOWN, each method tells it, whatever its arguments, and changes nothing. */
  private static void promiseDown() {
    Memoryfiles x = withLost();
    x.makeFile(01 + 3);
    x.open(04, 2);
    x.crash(0);
    long before = x.digest();
    for (int bad = -1; bad <= 1; bad++) {
      int n = bad == 0 ? 0 : bad * 16777217;
      due(x.be(n), DOWN);
      due(x.tick(n), DOWN);
      due(x.go(n), DOWN);
      due(x.watch(n), DOWN);
      due(x.heard(), "-6");
      due(x.makeDirectory(n), DOWN);
      due(x.makeFile(n), DOWN);
      due(x.makeSoft(n, n), DOWN);
      due(x.link(n, n), DOWN);
      due(x.unlink(n), DOWN);
      due(x.move(n, n), DOWN);
      due(x.rights(n, n), DOWN);
      due(x.quota(n, n), DOWN);
      due(x.cut(n, n), DOWN);
      due(x.open(n, n), DOWN);
      due(x.close(n), DOWN);
      due(x.seek(n, n), DOWN);
      due(x.read(n, n), "-6");
      due(x.write(n, n, n), DOWN);
      due(x.lock(n, n, n, true), DOWN);
      due(x.unlock(n), DOWN);
      due(x.crash(n), DOWN);
      due(x.back(n), DOWN);
      due(x.flush(), DOWN);
      due(x.keep(n), DOWN);
      due(x.drop(n), DOWN);
      due(x.slotByte(n, n, n), DOWN);
      due(x.copyTree(n, n), DOWN);
      due(x.removeTree(n), DOWN);
      due(x.compare(n, n), DOWN);
      due(x.adopt(n, n), DOWN);
      due(x.purge(), DOWN);
      due(x.harm(false, n), DOWN);
      due(x.harm(true, n), DOWN);
      due(x.repair(), DOWN);
      due(x.check(), "-6");
      due(x.find(n, true), DOWN);
      due(x.list(n, n), "-6");
      due(x.ofFile(n, n), DOWN);
      due(x.wayOf(n), "-6");
      due(x.ofBlock(n, n), DOWN);
      due(x.ofUser(n, true), DOWN);
      due(x.ofHandle(n, n), DOWN);
    }
    due(x.digest(), before);
    due(x.isSound() ? 1 : 0, 1);
    due(x.mend(), 1);
  }

  private static void run(int number) {
    promise = number;
    switch (number) {
      case 1: promise1(); break;
      case 2: promise2(); break;
      case 3: promise3(); break;
      case 4: promise4(); break;
      case 5: promise5(); promise5Rights(); break;
      case 6: promise6(); break;
      case 7: promise7(); break;
      case 8: promise8(); break;
      case 9: promise9(); break;
      case 10: promise10(); break;
      case 11: promise11(); promise11Last(); break;
      case 12: promise12(); break;
      case 13: promise13(); break;
      case 14: promise14(); break;
      case 15: promise15(); promise15More(); break;
      case 16: promise16(); break;
      case 17: promise17(); break;
      case 18: promise18(); break;
      case 19: promise19(); promise19Cache(); promise19End(); break;
      case 20: promise20(); promise20Blocks(); break;
      case 21: promise21(); promise21Ring(); promise21Shared(); break;
      case 22: promise22(); break;
      case 23: promise23(); promise23Each(); break;
      case 24: promise24(); promiseDown(); break;
      case 25: promise25(); break;
      case 26: promise26(); promise26Room(); break;
      case 27: promise27(); break;
      case 28: promise28(); break;
      case 29: promise29(); break;
      case 30: promise30(); promise30Rights(); promise30Full(); break;
      case 31: promise31(); break;
      case 32: promise32(); break;
      case 33: promise33(); break;
      case 34: promise34(); break;
      case 35: promise35(); break;
      case 36: promise36(); break;
      case 37: promise37(); break;
      case 38: promise38(); promise38Round(); break;
      case 39: promise39(); break;
      case 40: promise40(); break;
      case 41: promise41(); break;
      case 42: promise42(); break;
      case 43: promise43(); break;
      case 44: promise44(); break;
      case 45: promise45(); break;
      case 46: promise46(); break;
      case 47: promise47(); break;
      default: promise48(); break;
    }
  }

  public static void main(String[] args) {
    for (int number = 1; number <= 48; number++) {
      try {
        run(number);
      } catch (RuntimeException e) {
        wrong++;
        System.out.println("promise " + number + ": " + e);
        for (StackTraceElement step : e.getStackTrace()) {
          System.out.println("    " + step);
        }
      }
    }
    System.out.println(wrong == 0 ? "all promises hold" : wrong + " answers are not as due");
    if (wrong != 0) {
      System.exit(1);
    }
  }
}
