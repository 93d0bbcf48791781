import java.lang.reflect.Method;
import java.nio.file.Files;
import java.nio.file.Path;
import java.util.Set;
import java.util.TreeSet;
import java.util.regex.Matcher;
import java.util.regex.Pattern;

// The calls that README.md shows answer what it says, and it shows every method of the face.
public final class ReadmeTest {
  private static final Pattern NEW = Pattern.compile("TightOctagon t = new TightOctagon\\((\\d+)\\);");
  private static final Pattern CALL = Pattern.compile("t\\.(\\w+)\\(([^)]*)\\);\\s*// (-?\\d+|true|false)\\b.*");
  private static int wrong = 0;
  private static int calls = 0;

  public static void main(String[] args) throws Exception {
    TightOctagon t = null;
    Set<String> shown = new TreeSet<>();
    for (String line : Files.readAllLines(Path.of("README.md"))) {
      Matcher made = NEW.matcher(line);
      Matcher call = CALL.matcher(line);
      if (made.matches()) {
        t = new TightOctagon(Integer.parseInt(made.group(1)));
      } else if (t != null && call.matches()) {
        shown.add(call.group(1));
        due(line, String.valueOf(answer(t, call.group(1), call.group(2))), call.group(3));
      } else if (line.startsWith("t.")) {
        due(line, "no call with an answer", "one");
      }
    }
    Set<String> face = new TreeSet<>();
    for (Method method : TightOctagon.class.getMethods()) {
      if (method.getDeclaringClass() == TightOctagon.class) face.add(method.getName());
    }
    due("the methods that are shown", shown.toString(), face.toString());
    System.out.println(wrong == 0 ? calls + " things are as README.md says" : wrong + " things are not as README.md says");
    if (wrong != 0) System.exit(1);
  }

  private static void due(String what, String got, String want) {
    calls++;
    if (!got.equals(want)) {
      wrong++;
      System.out.println(what + " -- answered " + got + ", due is " + want);
    }
  }

  private static Object answer(TightOctagon t, String name, String list) throws Exception {
    String[] texts = list.isBlank() ? new String[0] : list.split(",");
    for (Method method : TightOctagon.class.getMethods()) {
      if (!method.getName().equals(name) || method.getParameterCount() != texts.length) continue;
      Object[] values = new Object[texts.length];
      for (int n = 0; n < texts.length; n++) {
        String text = texts[n].trim();
        if (method.getParameterTypes()[n] == long.class) values[n] = Long.valueOf(text);
        else values[n] = Integer.valueOf(text);
      }
      return method.invoke(t, values);
    }
    return "no such method";
  }
}
