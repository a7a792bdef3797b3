import java.io.File;
import java.lang.reflect.Method;
import java.lang.reflect.Modifier;
import java.nio.file.Files;
import java.nio.file.Path;
import java.util.HashMap;
import java.util.Map;
import java.util.regex.Matcher;
import java.util.regex.Pattern;

/** Runs the lines of README.md that show calls; what it says of calls and tests is all there. */
public final class ReadmeTest {
  private static final Pattern CALL = Pattern.compile("x\\.(\\w+)\\((.*)\\); +// (.*)");
  private static final Pattern NUMBER = Pattern.compile("(-?\\d+)(:.*)?");
  private static final Pattern BITS = Pattern.compile("the bits of (-?\\d+\\.\\d+)(:.*)?");

  private static final Map<String, Method> face = new HashMap<>();
  private static final Map<String, Integer> shown = new HashMap<>();

  private static int argument(String told) {
    return told.startsWith("'") ? told.charAt(1) : Integer.parseInt(told);
  }

  private static long due(String told) {
    Matcher number = NUMBER.matcher(told);
    if (number.matches()) return Long.parseLong(number.group(1));
    Matcher bits = BITS.matcher(told);
    if (bits.matches()) return Double.doubleToRawLongBits(Double.parseDouble(bits.group(1)));
    throw new IllegalArgumentException("an answer that can't be read: " + told);
  }

  private static void run(WhatIfSheet x, String line) throws Exception {
    Matcher call = CALL.matcher(line);
    if (!call.matches()) throw new IllegalArgumentException("a line that can't be read: " + line);
    String[] told = call.group(2).isEmpty() ? new String[0] : call.group(2).split(", ");
    Object[] with = new Object[told.length];
    for (int k = 0; k < told.length; k++) with[k] = argument(told[k]);
    shown.merge(call.group(1), 1, Integer::sum);
    Number got = (Number) face.get(call.group(1)).invoke(x, with);
    Check.due(line, got.longValue(), due(call.group(3)));
  }

  private static void examples(String page) throws Exception {
    WhatIfSheet x = null;
    boolean inside = false;
    for (String line : page.split("\n")) {
      if (line.startsWith("```")) inside = line.equals("```java");
      else if (inside && line.equals("WhatIfSheet x = new WhatIfSheet();")) x = new WhatIfSheet();
      else if (inside) run(x, line);
    }
  }

  public static void main(String[] args) throws Exception {
    for (Method m : WhatIfSheet.class.getDeclaredMethods()) {
      if (Modifier.isPublic(m.getModifiers())) face.put(m.getName(), m);
    }
    String page = Files.readString(Path.of("README.md"));
    examples(page);
    Check.due("calls of the face", face.size(), 29);
    for (String name : face.keySet()) {
      Check.due(name + " is told of", page.contains("`" + name + "(") ? 1 : 0, 1);
      Check.due(name + " is shown", shown.containsKey(name) ? 1 : 0, 1);
    }
    for (String file : new File("tests").list()) {
      if (!file.endsWith("Test.java")) continue;
      String test = file.substring(0, file.length() - 5);
      Check.due(test + " is told of", page.contains("| `" + test + "` |") ? 1 : 0, 1);
    }
    Check.due("how to run the tests is told", page.contains("bash .ci/run") ? 1 : 0, 1);
    Check.end();
  }
}
