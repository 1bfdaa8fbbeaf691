import java.lang.reflect.Constructor;
import java.lang.reflect.Field;
import java.lang.reflect.Method;
import java.lang.reflect.Modifier;
import java.nio.file.Files;
import java.nio.file.Path;
import java.nio.file.Paths;
import java.util.ArrayList;
import java.util.Arrays;
import java.util.Collections;
import java.util.HashSet;
import java.util.List;
import java.util.Set;
import java.util.regex.Matcher;
import java.util.regex.Pattern;

/** The face is the document's, and the file keeps to what LANGUAGE.md leaves. */
public final class FaceTest {
  private static final Check check = new Check();
  private static final String[] FORBIDDEN = {
    "->", "::", "finally", "synchronized", "assert ", "static \\{", "\\bMath\\.\\w+Exact",
    "\\btry\\b", "\\bcatch\\b", "\\bString\\.format", "\\bSystem\\.(?!arraycopy)", "\\bThread\\b",
    "\\bObject\\b", "\\bHashMap\\b", "\\bRandom\\b", "\\bgetMessage\\b", "\\bpackage\\b",
    "\\bwhile \\(true", "for \\(;;", "\\bequals\\(|hashCode|toString",
  };

  /** The signatures of the document's interface, with what they throw in its order. */
  static List<String> faceOfDocument(String document) {
    List<String> face = new ArrayList<>();
    String text = document.substring(document.indexOf("```java"));
    text = text.substring(0, text.indexOf("## Terms"));
    Matcher m = Pattern.compile("public (\\w+) (\\w+)\\(([^)]*)\\)(?: throws ([^;]*))?;").matcher(text);
    while (m.find()) {
      List<String> types = new ArrayList<>();
      for (String p : m.group(3).split(",")) {
        if (!p.trim().isEmpty()) types.add(p.trim().split(" ")[0]);
      }
      List<String> thrown = m.group(4) == null ? new ArrayList<>() : Arrays.asList(m.group(4).split(", "));
      face.add(m.group(1) + " " + m.group(2) + types + " throws " + thrown);
    }
    return face;
  }

  static List<String> faceOfClass() {
    List<String> face = new ArrayList<>();
    for (Method m : TypeScribe.class.getDeclaredMethods()) {
      if (Modifier.isPrivate(m.getModifiers()) || m.isSynthetic()) continue;
      List<String> types = new ArrayList<>();
      for (Class<?> c : m.getParameterTypes()) types.add(c.getName());
      List<String> thrown = new ArrayList<>();
      for (Class<?> c : m.getExceptionTypes()) thrown.add(c.getSimpleName());
      face.add(m.getReturnType().getName() + " " + m.getName() + types + " throws " + thrown);
    }
    return face;
  }

  static void face(Path shared) throws Exception {
    List<String> due = faceOfDocument(Files.readString(shared.resolve("DOC.md")));
    List<String> got = faceOfClass();
    Collections.sort(due);
    Collections.sort(got);
    check.equal("methods of the face", got, due);
    check.isTrue("the document's face is read", due.size() == 38);
    check.isTrue("public and final", TypeScribe.class.getModifiers() == (Modifier.PUBLIC | Modifier.FINAL));
    Constructor<?>[] made = TypeScribe.class.getDeclaredConstructors();
    check.isTrue("one constructor", made.length == 1 && Modifier.isPublic(made[0].getModifiers()));
    for (Field f : TypeScribe.class.getDeclaredFields()) {
      check.isTrue(f.getName() + " is private", Modifier.isPrivate(f.getModifiers()));
    }
  }

  static void names() {
    Set<String> open = new HashSet<>();
    for (Method m : TypeScribe.class.getDeclaredMethods()) {
      if (Modifier.isPublic(m.getModifiers())) open.add(m.getName());
    }
    List<Class<?>> all = new ArrayList<>(Arrays.asList(TypeScribe.class.getDeclaredClasses()));
    check.isTrue("some twelve classes", all.size() <= 11);
    all.add(TypeScribe.class);
    for (Class<?> c : all) {
      check.isTrue(c.getName() + " is static", c == TypeScribe.class || Modifier.isStatic(c.getModifiers()));
      for (Method m : c.getDeclaredMethods()) {
        if (Modifier.isPrivate(m.getModifiers())) {
          check.isTrue(m + " has a name of its own", !open.contains(m.getName()));
        }
        check.isTrue(m + " takes seven at most", m.getParameterCount() <= 7);
      }
      int fields = 0;
      for (Field f : c.getDeclaredFields()) {
        if (Modifier.isStatic(f.getModifiers())) {
          check.isTrue(f + " is final", Modifier.isFinal(f.getModifiers()));
        } else {
          fields++;
        }
      }
      check.isTrue(c.getName() + " has some twenty fields", fields <= 20);
    }
  }

  static void text(Path source) throws Exception {
    String code = Files.readString(source).replaceAll("(?s)/\\*.*?\\*/", "").replaceAll("//.*", "");
    for (String word : FORBIDDEN) {
      check.isTrue("no " + word, !Pattern.compile(word).matcher(code).find());
    }
    Matcher imports = Pattern.compile("import ([\\w.*]+);").matcher(code);
    while (imports.find()) check.equal("import", imports.group(1), "java.util.Arrays");
    int length = 0;
    for (String line : code.split("\n")) {
      if (line.matches("  (  )?\\S.*\\{")) length = 0;
      length++;
      check.isTrue("methods stay short: " + line, length < 62 || !line.matches("  (  )?\\}"));
    }
  }

  public static void main(String[] args) throws Exception {
    face(Paths.get(args[1]));
    names();
    text(Paths.get(args[0]));
    check.end("FaceTest");
  }
}
