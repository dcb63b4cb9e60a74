import java.io.IOException;
import java.lang.reflect.InvocationTargetException;
import java.lang.reflect.Method;
import java.nio.file.Files;
import java.nio.file.Path;
import java.util.ArrayList;
import java.util.List;
import java.util.regex.Matcher;
import java.util.regex.Pattern;

/** The calls that README.md shows answer what stands behind them there, and are all calls, in the document's order. */
public final class MemoryfilesReadme {
  private static final Pattern CALL =
      Pattern.compile("machine\\.(\\w+)\\((.*?)\\); *// (\"[^\"]*\"|true|false|-?\\d+|throws \\w+)(: .*)?");
  private static final String ORDER = "be tick go watch heard makeDirectory makeFile makeSoft link unlink move rights"
      + " quota cut open close seek read write lock unlock crash mend back flush keep drop slotByte copyTree removeTree"
      + " compare adopt purge harm repair check find list ofFile wayOf ofBlock ofUser ofHandle house knock isSound"
      + " digest";

  private static int wrong = 0;

  private static void tell(String line) {
    wrong++;
    System.out.println("README.md: " + line);
  }

  private static Method named(String name) {
    for (Method method : Memoryfiles.class.getDeclaredMethods()) {
      if (method.getName().equals(name) && java.lang.reflect.Modifier.isPublic(method.getModifiers())) {
        return method;
      }
    }
    throw new IllegalStateException("there is no call " + name);
  }

  private static Object[] argumentsOf(String told) {
    List<Object> all = new ArrayList<>();
    for (String one : told.isEmpty() ? new String[0] : told.split(", ")) {
      boolean isWord = one.equals("true") || one.equals("false");
      all.add(isWord ? (Object) Boolean.valueOf(one) : (Object) Integer.decode(one));
    }
    return all.toArray();
  }

  private static String answerOf(Memoryfiles machine, Method method, Object[] arguments) throws IllegalAccessException {
    try {
      Object answer = method.invoke(machine, arguments);
      return answer instanceof String ? "\"" + answer + "\"" : String.valueOf(answer);
    } catch (InvocationTargetException e) {
      return "throws " + e.getCause().getClass().getSimpleName();
    }
  }

  private static void check(Memoryfiles machine, String line, List<String> seen) throws IllegalAccessException {
    Matcher call = CALL.matcher(line);
    if (!call.matches()) {
      tell("not told as a call and its answer: " + line);
      return;
    }
    String answer = answerOf(machine, named(call.group(1)), argumentsOf(call.group(2)));
    if (!answer.equals(call.group(3))) {
      tell("answered " + answer + ": " + line);
    }
    if (!seen.contains(call.group(1))) {
      seen.add(call.group(1));
    }
  }

  public static void main(String[] args) throws IOException, IllegalAccessException {
    Memoryfiles machine = new Memoryfiles();
    List<String> seen = new ArrayList<>();
    for (String line : Files.readAllLines(Path.of("README.md"))) {
      if (line.startsWith("machine.")) {
        check(machine, line, seen);
      }
    }
    if (!String.join(" ", seen).equals(ORDER)) {
      tell("the calls are not all, or not in the document's order: " + seen);
    }
    System.out.println(wrong == 0 ? "README.md tells the answers that are due" : wrong + " answers are not as due");
    if (wrong != 0) {
      System.exit(1);
    }
  }
}
