import java.io.ByteArrayOutputStream;
import java.io.PrintStream;
import java.lang.reflect.Method;
import java.lang.reflect.Modifier;
import java.net.URL;
import java.net.URLClassLoader;
import java.nio.file.Files;
import java.nio.file.Path;
import java.util.Comparator;
import java.util.List;
import java.util.stream.Stream;
import javax.tools.ToolProvider;

/** The program in README.md is compiled and run: it prints what README.md says that it prints. */
public final class ReadmeTest {
  private static int wrong = 0;

  private static void check(boolean holds, String what) {
    if (!holds) { wrong++; System.out.println("README.md, not as due: " + what); }
  }

  private static String block(String readme, String kind) {
    String opens = "```" + kind + "\n";
    int from = readme.indexOf(opens);
    int to = from < 0 ? -1 : readme.indexOf("```", from + opens.length());
    return to < 0 ? "" : readme.substring(from + opens.length(), to);
  }

  private static String printed(Path room, String program) throws Exception {
    Path file = room.resolve("Example.java");
    Files.writeString(file, program);
    int refused = ToolProvider.getSystemJavaCompiler().run(null, null, null,
        "-cp", System.getProperty("java.class.path"), "-d", room.toString(), file.toString());
    if (refused != 0) return "(it does not compile)";
    PrintStream before = System.out;
    ByteArrayOutputStream out = new ByteArrayOutputStream();
    try (URLClassLoader loader = new URLClassLoader(new URL[] {room.toUri().toURL()}); PrintStream here = new PrintStream(out)) {
      System.setOut(here);
      loader.loadClass("Example").getMethod("main", String[].class).invoke(null, (Object) new String[0]);
    } finally {
      System.setOut(before);
    }
    return out.toString().replace("\r\n", "\n");
  }

  private static void empty(Path room) throws Exception {
    try (Stream<Path> all = Files.walk(room)) {
      List<Path> deepestFirst = all.sorted(Comparator.reverseOrder()).toList();
      for (Path path : deepestFirst) Files.delete(path);
    }
  }

  public static void main(String[] args) throws Exception {
    String readme = Files.readString(Path.of("README.md"));
    Path room = Files.createTempDirectory("readme");
    try {
      String got = printed(room, block(readme, "java"));
      check(got.equals(block(readme, "text")), "the program prints\n" + got);
    } finally {
      empty(room);
    }
    for (Method m : CrustCrumb.class.getDeclaredMethods()) {
      if (!Modifier.isPublic(m.getModifiers())) continue;
      boolean told = readme.lines().anyMatch(line -> line.startsWith("|") && line.contains("`" + m.getName() + "`"));
      check(told, "no row for " + m.getName());
    }
    System.out.println(wrong == 0 ? "README.md says what is so" : wrong + " not as due");
    if (wrong != 0) System.exit(1);
  }
}
