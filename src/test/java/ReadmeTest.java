import java.net.URL;
import java.net.URLClassLoader;
import java.nio.file.Files;
import java.nio.file.Path;
import java.util.List;
import java.util.regex.Matcher;
import java.util.regex.Pattern;
import java.util.stream.Stream;
import javax.tools.JavaCompiler;
import javax.tools.ToolProvider;

/**
 * The README's examples: they are taken out of the page, compiled as they stand there but with each
 * answer held against the number behind its call, and run as one, on one object.
 */
public final class ReadmeTest {
  /** What the examples have to show, so that a page without them is seen. */
  private static final List<String> SHOWN = List.of("table", "rule", "indicator", "text", "set",
      "lines", "length", "cell", "read", "letter", "judge", "status", "place", "finds");
  private static final Pattern BLOCK = Pattern.compile("(?ms)^```java\n(.*?)^```");
  private static final Pattern CALL =
      Pattern.compile("(int \\w+ = )?(x\\.\\w+\\(.*);\\s*// (-?\\d+)\\b.*", Pattern.DOTALL);

  private static int wrong = 0;

  public static void main(String[] args) throws Exception {
    String example = example(Files.readString(Path.of("README.md")));
    for (String name : SHOWN) {
      if (!example.contains("x." + name + "(")) {
        fault("README.md: no example has a call of " + name + "()");
      }
    }
    if (wrong == 0) {
      run("final class Example { static int wrong = 0;\n"
          + "static int due(String call, int got, int want) { if (got != want) { wrong++;\n"
          + "System.out.println(\"README.md: \" + call + \" answered \" + got + \", there stands \""
          + " + want); } return got; }\n"
          + "public static void main(String[] args) {\n" + example
          + "if (wrong != 0) { throw new IllegalStateException(wrong + \" wrong\"); } } }\n");
    }
    System.out.println("ReadmeTest: " + wrong + " faults");
    System.exit(wrong == 0 ? 0 : 1);
  }

  private static void fault(String what) {
    wrong++;
    System.out.println(what);
  }

  /** All examples as one, each call with a look at its answer. */
  private static String example(String page) {
    StringBuilder all = new StringBuilder();
    Matcher block = BLOCK.matcher(page);
    while (block.find()) {
      String open = "";
      for (String line : block.group(1).split("\n")) {
        open = open.isEmpty() ? line.trim() : open + " " + line.trim();
        // a call may go over several lines: it ends with its semicolon
        if (open.contains(";")) {
          all.append(lookedAt(open)).append('\n');
          open = "";
        }
      }
      if (!open.isEmpty()) {
        fault("README.md: " + open + " does not end");
      }
    }
    return all.toString();
  }

  private static String lookedAt(String line) {
    if (line.equals("DotPress x = new DotPress();")) {
      return line;
    }
    Matcher call = CALL.matcher(line);
    if (!call.matches()) {
      fault("README.md: " + line + " is no call with its answer");
      return "";
    }
    String begin = call.group(1) == null ? "" : call.group(1);
    return begin + "due(\"" + call.group(2) + "\", " + call.group(2) + ", " + call.group(3) + ");";
  }

  private static void run(String source) throws Exception {
    Path folder = Files.createTempDirectory("readme");
    try {
      Path file = folder.resolve("Example.java");
      Files.writeString(file, source);
      JavaCompiler javac = ToolProvider.getSystemJavaCompiler();
      String classes = System.getProperty("java.class.path");
      if (javac == null || javac.run(null, null, null, "-cp", classes, file.toString()) != 0) {
        fault("README.md: the examples do not compile");
        return;
      }
      call(folder.toUri().toURL());
    } finally {
      try (Stream<Path> files = Files.list(folder)) {
        for (Path file : files.toList()) {
          Files.delete(file);
        }
      }
      Files.delete(folder);
    }
  }

  private static void call(URL folder) throws Exception {
    try (URLClassLoader loader = new URLClassLoader(new URL[] {folder})) {
      var main = loader.loadClass("Example").getDeclaredMethod("main", String[].class);
      main.setAccessible(true);
      main.invoke(null, (Object) new String[0]);
    } catch (java.lang.reflect.InvocationTargetException e) {
      fault("README.md: " + e.getCause());
    }
  }
}
