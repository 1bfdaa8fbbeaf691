import java.io.File;
import java.lang.reflect.InvocationTargetException;
import java.net.URL;
import java.net.URLClassLoader;
import java.nio.file.Files;
import java.nio.file.Path;
import java.nio.file.Paths;
import java.util.Comparator;
import java.util.List;
import java.util.regex.Matcher;
import java.util.regex.Pattern;
import java.util.stream.Collectors;
import java.util.stream.Stream;
import javax.tools.JavaCompiler;
import javax.tools.ToolProvider;

/** Compiles and runs the examples of README.md: a value behind "//" is what a call must answer. */
public final class ReadmeTest {
  private static final Check check = new Check();
  private static final Pattern TOLD =
      Pattern.compile("(?:int (\\w+) = )?(x\\..*); *// *(-?\\d+|true|false)(?:$|:.*)");

  /** The calls of the examples come back here. */
  public static void due(String call, Object got, Object expected) {
    check.equal(call, got, expected);
  }

  /** A line as it stands; one that tells an answer asks for it too. */
  static String asked(String line) {
    Matcher m = TOLD.matcher(line);
    if (!m.matches()) return line;
    String call = m.group(2).replace("\"", "\\\"");
    String got = m.group(1) == null ? m.group(2) : m.group(1);
    String made = m.group(1) == null ? "" : "int " + got + " = " + m.group(2) + ";\n";
    return made + "ReadmeTest.due(\"" + call + "\", " + got + ", " + m.group(3) + ");";
  }

  static String program(List<String> lines) {
    StringBuilder text = new StringBuilder("public final class Examples {\n");
    int examples = 0;
    boolean isInside = false;
    for (String line : lines) {
      if (line.equals("```java")) {
        text.append("public static void example").append(examples++).append("() {\n");
        isInside = true;
      } else if (line.equals("```")) {
        text.append("}\n");
        isInside = false;
      } else if (isInside) {
        text.append(asked(line)).append("\n");
      }
    }
    text.append("public static void all() {\n");
    for (int i = 0; i < examples; i++) text.append("example").append(i).append("();\n");
    check.isTrue("there are examples", examples > 3);
    return text.append("}\n}\n").toString();
  }

  static void run(Path folder, String program) throws Exception {
    Path source = folder.resolve("Examples.java");
    Files.writeString(source, program);
    JavaCompiler compiler = ToolProvider.getSystemJavaCompiler();
    String[] arguments = {"-cp", System.getProperty("java.class.path"), "-d", folder.toString(),
        source.toString()};
    int code = compiler.run(null, null, null, arguments);
    check.equal("compiling the examples", code, 0);
    if (code != 0) return;
    URL[] where = {folder.toUri().toURL()};
    try (URLClassLoader loader = new URLClassLoader(where, ReadmeTest.class.getClassLoader())) {
      loader.loadClass("Examples").getMethod("all").invoke(null);
    } catch (InvocationTargetException e) {
      check.equal("an example threw", e.getCause(), "nothing");
    }
  }

  static void remove(Path folder) throws Exception {
    List<File> all;
    try (Stream<Path> paths = Files.walk(folder)) {
      all = paths.sorted(Comparator.reverseOrder()).map(Path::toFile).collect(Collectors.toList());
    }
    for (File f : all) check.isTrue("removing " + f, f.delete());
  }

  /** Each test of the project is named in it. */
  static void namesOfTests(String readme, Path tests) {
    String[] files = tests.toFile().list();
    check.isTrue("there are tests", files != null && files.length > 0);
    for (String file : files == null ? new String[0] : files) {
      String name = file.replace(".java", "");
      if (name.endsWith("Test")) check.isTrue(name + " is told", readme.contains("`" + name + "`"));
    }
  }

  public static void main(String[] args) throws Exception {
    Path readme = Paths.get(args[0]);
    Path folder = Files.createTempDirectory("readme");
    run(folder, program(Files.readAllLines(readme)));
    remove(folder);
    namesOfTests(Files.readString(readme), Paths.get(args[1]));
    check.end("ReadmeTest");
  }
}
