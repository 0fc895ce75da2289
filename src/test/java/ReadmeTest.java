import java.lang.reflect.Method;
import java.lang.reflect.Modifier;
import java.nio.file.Files;
import java.nio.file.Path;
import java.util.HashMap;
import java.util.Map;
import java.util.regex.Matcher;
import java.util.regex.Pattern;

/** What README.md says of the class: its example answers as it says, and it names every call of the face. */
public final class ReadmeTest {
  private static final Pattern CALL = Pattern.compile("x\\.(\\w+)\\((.*)\\);\\s*// (-?\\d+|true|false)\\b.*");
  private static final String CODE = "```java\n";

  private final Check check = new Check();
  private final Map<String, Method> face = new HashMap<>();

  private ReadmeTest() {
    for (Method method : CrankBranches.class.getDeclaredMethods()) {
      if (Modifier.isPublic(method.getModifiers())) {
        face.put(method.getName(), method);
      }
    }
  }

  public static void main(String[] args) throws Exception {
    String text = Files.readString(Path.of("README.md"));
    ReadmeTest test = new ReadmeTest();
    test.example(text.substring(text.indexOf(CODE) + CODE.length()));
    test.names(text);
    test.check.end();
  }

  private void example(String code) throws ReflectiveOperationException {
    String[] lines = code.substring(0, code.indexOf("```")).split("\n");
    check.due("the example's first line makes an object",
        lines[0].equals("CrankBranches x = new CrankBranches();"), true);
    CrankBranches x = new CrankBranches();
    for (int i = 1; i < lines.length; i++) {
      Matcher call = CALL.matcher(lines[i]);
      check.due("a call with an answer: " + lines[i], call.matches(), true);
      if (call.matches()) {
        Object got = answer(x, face.get(call.group(1)), call.group(2));
        check.due(lines[i] + " answered " + got, String.valueOf(got).equals(call.group(3)), true);
      }
    }
  }

  private static Object answer(CrankBranches x, Method method, String told) throws ReflectiveOperationException {
    Class<?>[] types = method.getParameterTypes();
    String[] parts = told.isEmpty() ? new String[0] : told.split(", ");
    Object[] values = new Object[parts.length];
    for (int i = 0; i < parts.length; i++) {
      values[i] = types[i] == boolean.class ? (Object) Boolean.valueOf(parts[i]) : (Object) Integer.valueOf(parts[i]);
    }
    return method.invoke(x, values);
  }

  private void names(String text) {
    for (String name : face.keySet()) {
      check.due("README.md names " + name, text.contains("`" + name + "`"), true);
    }
    for (String name : new String[] {"NONE", "NOTHING", ".ci/run", "../shared/tests"}) {
      check.due("README.md tells of " + name, text.contains(name), true);
    }
  }
}
