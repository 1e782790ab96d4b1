import java.io.IOException;
import java.lang.reflect.Method;
import java.lang.reflect.Modifier;
import java.nio.file.Files;
import java.nio.file.Path;
import java.util.Set;
import java.util.TreeSet;
import java.util.regex.Matcher;
import java.util.regex.Pattern;

/** Does the calls that README.md shows, in their order, and compares the answers that it tells. */
public final class LoopTellsReadme extends Check {
  private static final Pattern SHOWN =
      Pattern.compile("(?m)^x\\.(\\w+)\\((.*)\\);(?: +// (-?\\d+|true|false)\\b.*)?$");

  /** A sum of products, as the README writes an order. */
  private static int numberOf(String text) {
    int sum = 0;
    for (String part : text.split("\\+")) {
      int product = 1;
      for (String factor : part.split("\\*")) {
        product *= Integer.parseInt(factor.trim());
      }
      sum += product;
    }
    return sum;
  }

  private static Object[] argumentsOf(Method call, String text) {
    Class<?>[] types = call.getParameterTypes();
    Object[] arguments = new Object[types.length];
    String[] parts = text.split(",");
    for (int i = 0; i < types.length; i++) {
      String part = parts[i].trim();
      arguments[i] = types[i] == boolean.class ? (Object) part.equals("true") : numberOf(part);
    }
    return arguments;
  }

  private static Method named(String name) {
    for (Method m : LoopTells.class.getMethods()) {
      if (m.getName().equals(name)) {
        return m;
      }
    }
    throw new IllegalArgumentException("the README shows a call that there is not: " + name);
  }

  private static void checkCalls(String readme) throws ReflectiveOperationException {
    LoopTells x = new LoopTells();
    Matcher shown = SHOWN.matcher(readme);
    int calls = 0;
    while (shown.find()) {
      Method call = named(shown.group(1));
      String answer = String.valueOf(call.invoke(x, argumentsOf(call, shown.group(2))));
      String told = shown.group(3);
      due(shown.group() + " (" + answer + ")", told == null || told.equals(answer), true);
      calls++;
    }
    due("every line with a call is read", calls, readme.lines().filter(l -> l.startsWith("x.")).count());
    due("calls are shown", calls > 0, true);
  }

  private static void checkTable(String readme) {
    Set<String> listed = new TreeSet<>();
    for (String line : readme.lines().filter(l -> l.startsWith("| `")).toList()) {
      Matcher call = Pattern.compile("`(\\w+)\\(([^)]*)\\)`").matcher(line.split("\\|")[1]);
      while (call.find()) {
        listed.add(call.group(1));
        int takes = call.group(2).isEmpty() ? 0 : call.group(2).split(",").length;
        due(call.group(1) + " takes", takes, named(call.group(1)).getParameterCount());
      }
    }
    for (Method m : LoopTells.class.getDeclaredMethods()) {
      if (Modifier.isPublic(m.getModifiers())) {
        due("the README lists " + m.getName(), listed.contains(m.getName()), true);
      }
    }
  }

  public static void main(String[] args) throws IOException, ReflectiveOperationException {
    String readme = Files.readString(Path.of("README.md"));
    checkCalls(readme);
    checkTable(readme);
    close();
  }
}
