import java.lang.reflect.InvocationTargetException;
import java.lang.reflect.Method;
import java.util.Arrays;
import java.util.Comparator;
import java.util.List;
import java.util.Random;

/**
 * Runs of calls with whatever arguments: each call throws nothing but what its promise names, nothing at all as it is
 * DOWN, and all stays SOUND; what throws, or tells a number below -1, changes no checksum (but a CRASH, and HELD of
 * lock()).
 */
public final class MemoryfilesWild {
  private static final int[] NUMBERS = {
    Integer.MIN_VALUE, -16777216, -16777215, -81, -9, -8, -7, -6, -2, -1, 0, 1, 2, 3, 4, 5, 6, 7, 8, 9, 10, 11, 12, 17,
    18, 20, 21, 29, 30, 58, 63, 64, 65, 79, 80, 81, 500, 501, 1000, 1001, 16777215, 16777216, Integer.MAX_VALUE};
  private static final List<String> ALIVE = Arrays.asList("mend", "house", "knock", "isSound", "digest");

  private static int wrong = 0;

  private static Method[] face() {
    Method[] all = Memoryfiles.class.getDeclaredMethods();
    Method[] open = Arrays.stream(all).filter(m -> java.lang.reflect.Modifier.isPublic(m.getModifiers()))
        .toArray(Method[]::new);
    Arrays.sort(open, Comparator.comparing(Method::getName));
    return open;
  }

  private static int someNumber(Random random, boolean isTame) {
    if (!isTame) {
      return random.nextInt(20) == 0 ? random.nextInt() : NUMBERS[random.nextInt(NUMBERS.length)];
    }
    int steps = random.nextInt(3);
    int path = 0;
    for (int i = 0; i <= steps; i++) {
      path = path * 8 + 1 + random.nextInt(3);
    }
    return random.nextInt(2) == 0 ? random.nextInt(6) : random.nextInt(3) == 0 ? path : -path;
  }

  private static Object[] someArguments(Method method, Random random) {
    Class<?>[] types = method.getParameterTypes();
    Object[] all = new Object[types.length];
    boolean isTame = random.nextInt(3) > 0;
    for (int i = 0; i < types.length; i++) {
      all[i] = types[i] == boolean.class ? (Object) random.nextBoolean() : (Object) someNumber(random, isTame);
    }
    return all;
  }

  private static boolean isPromised(Method method, Throwable thrown, boolean isDown) {
    if (isDown && !ALIVE.contains(method.getName())) {
      return false;
    }
    return Arrays.asList(method.getExceptionTypes()).contains(thrown.getClass());
  }

  private static boolean isNothing(Method method, Object answer) {
    List<String> others = Arrays.asList("crash", "lock", "ofFile", "digest");
    return answer instanceof Integer && (Integer) answer < -1 && !others.contains(method.getName());
  }

  private static void call(Memoryfiles x, Method method, Random random, int run) throws IllegalAccessException {
    Object[] arguments = someArguments(method, random);
    boolean isDown = x.house(10) == 1;
    long before = x.digest();
    String told = method.getName() + Arrays.toString(arguments);
    try {
      Object answer = method.invoke(x, arguments);
      boolean isCrash = !isDown && x.house(10) == 1;
      if (isNothing(method, answer) && !isCrash && x.digest() != before) {
        wrong++;
        System.out.println("run " + run + ": " + told + " answered " + answer + " and changed something");
      }
    } catch (InvocationTargetException e) {
      if (!isPromised(method, e.getCause(), isDown) || x.digest() != before) {
        wrong++;
        System.out.println("run " + run + ": " + told + " threw " + e.getCause());
      }
    }
    if (!x.isSound()) {
      wrong++;
      System.out.println("run " + run + ": not SOUND behind " + told);
    }
  }

  public static void main(String[] args) throws IllegalAccessException {
    Method[] face = face();
    if (face.length != 47) {
      wrong++;
      System.out.println(face.length + " public methods");
    }
    for (int run = 0; run < 600; run++) {
      Random random = new Random(run);
      Memoryfiles x = new Memoryfiles();
      // Each call comes with five that look at what it did: 80 times six are fewer than 512.
      for (int i = 0; i < 80; i++) {
        Method method = face[random.nextInt(face.length)];
        boolean isRare = method.getName().equals("crash") && random.nextInt(4) > 0;
        call(x, isRare ? face[random.nextInt(face.length)] : method, random, run);
      }
    }
    System.out.println(wrong == 0 ? "wild calls throw what is promised alone" : wrong + " answers are not as due");
    if (wrong != 0) {
      System.exit(1);
    }
  }
}
