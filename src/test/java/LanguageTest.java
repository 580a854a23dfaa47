import java.lang.reflect.Field;
import java.lang.reflect.Method;
import java.lang.reflect.Modifier;
import java.nio.file.Files;
import java.nio.file.Path;
import java.util.Arrays;
import java.util.Set;
import java.util.TreeSet;
import java.util.regex.Matcher;
import java.util.regex.Pattern;

/** The face of the class, and the rules of LANGUAGE.md that a look at the source can tell. */
public final class LanguageTest {
  private static final String[] FACE = {
      "int feed(long)", "int end(int)", "int text()", "int fault()", "int rule(int)", "int corner(int,int)", "int share(int)",
      "int move(int,int)", "int turn(int)", "int eat(int)", "int give(int,int)", "int join(int)", "int put(int,int)",
      "long place(int,int)", "long crumb(int,int)", "long crust(int,int)", "long due(int,int)", "long work(int,int,int,int)",
      "int judge(int)", "long off(int)", "long far(int,int)", "int round(int,int)", "int rounds(int)", "long best(int)",
      "long centre(int)", "int alike(int)", "int cherries(int)", "int cut()", "int gentle(int)", "int mark(int)", "int wipe(int)",
      "int told(int)", "int see(int,int,boolean)", "int forget(int)", "int begins(int)", "int keep(int)", "int back(int)",
      "int sheet(int,int,int)", "int lay(int,int,int)", "int read(int,int,int,int)", "int torn()", "int count(int)"};
  private static int wrong = 0;

  private static void check(boolean holds, String what) {
    if (!holds) { wrong++; System.out.println("not as due: " + what); }
  }

  private static String signature(Method m) {
    StringBuilder s = new StringBuilder(m.getReturnType().getName() + " " + m.getName() + "(");
    for (Class<?> c : m.getParameterTypes()) s.append(s.charAt(s.length() - 1) == '(' ? "" : ",").append(c.getName());
    return s.append(")").toString();
  }

  private static void face() {
    Class<?> c = CrustCrumb.class;
    check(Modifier.isPublic(c.getModifiers()) && Modifier.isFinal(c.getModifiers()), "public and final");
    Set<String> names = new TreeSet<>(), found = new TreeSet<>();
    for (Method m : c.getDeclaredMethods()) {
      if (Modifier.isPublic(m.getModifiers())) {
        found.add(signature(m));
        names.add(m.getName());
        check(!Modifier.isStatic(m.getModifiers()), m + " is static");
      } else {
        check(Modifier.isPrivate(m.getModifiers()), m + " is neither public nor private");
      }
    }
    check(found.equals(new TreeSet<>(Arrays.asList(FACE))), "the methods " + found);
    check(c.getDeclaredConstructors().length == 1 && c.getConstructors().length == 1, "one constructor");
    for (Field f : c.getDeclaredFields()) {
      boolean constant = Set.of("BAD", "STATE", "FULL", "NONE").contains(f.getName());
      check(constant ? Modifier.isPublic(f.getModifiers()) && Modifier.isStatic(f.getModifiers()) && f.getType() == int.class
          : Modifier.isPrivate(f.getModifiers()), "the field " + f);
      check(!Modifier.isStatic(f.getModifiers()) || Modifier.isFinal(f.getModifiers()), "the static field " + f);
    }
    check(c.getDeclaredClasses().length <= 11, "at most some twelve classes");
    for (Class<?> inner : c.getDeclaredClasses()) inner(inner, names);
  }

  private static void inner(Class<?> c, Set<String> names) {
    check(Modifier.isStatic(c.getModifiers()), c + " is static");
    check(!Modifier.isPublic(c.getModifiers()) && !Modifier.isProtected(c.getModifiers()), c + " is not public");
    int fields = 0;
    for (Field f : c.getDeclaredFields()) {
      if (!Modifier.isStatic(f.getModifiers())) fields++;
      else check(Modifier.isFinal(f.getModifiers()), "the static field " + f);
    }
    check(fields <= 20, c + " has " + fields + " fields");
    for (Method m : c.getDeclaredMethods()) {
      check(!names.contains(m.getName()), m + " bears the name of a public method");
      check(m.getParameterCount() <= 7, m + " takes too many");
    }
  }

  /** Without comments, texts and signs. */
  private static String bare(String source) {
    return source.replaceAll("(?s)/\\*.*?\\*/", " ").replaceAll("//[^\n]*", " ")
        .replaceAll("\"[^\"\n]*\"", "\"\"").replaceAll("'[^'\n]+'", "' '");
  }

  private static void words(String code) {
    String[] no = {"throw", "throws", "try", "catch", "synchronized", "assert", "import", "package", "protected", "native",
        "volatile", "transient", "instanceof", "Object", "var", "hashCode", "equals", "toString", "double", "float", "yield"};
    for (String w : no) check(!Pattern.compile("\\b" + w + "\\b").matcher(code).find(), "the word " + w);
    for (String s : new String[] {"->", "::", "Exact", "static {"}) check(!code.contains(s), "the signs " + s);
    Matcher m = Pattern.compile("\\b(System|Arrays|Math|Integer|Long)\\.(\\w+)").matcher(code);
    while (m.find()) {
      check(Set.of("System.arraycopy", "Math.max", "Math.min", "Math.abs").contains(m.group()), "the call " + m.group());
    }
    // All rows are made with the object: no method makes one.
    for (String line : code.split("\n")) {
      check(!line.contains("new ") || line.matches("\\s*(private |static |final )*(\\w|\\[|\\])+ \\w+ = .*;"), "made in a method: " + line);
      check(!line.contains("new ") || line.matches("^ {4}( {4})?\\S.*"), "made in a method: " + line);
    }
  }

  private static void methodLengths(String source) {
    String[] lines = source.split("\n");
    for (int i = 0; i < lines.length; i++) {
      Matcher m = Pattern.compile("^( {4}| {8})(?! )(?!.*class).*\\) \\{$").matcher(lines[i]);
      if (!m.find()) continue;
      int k = i;
      while (k < lines.length && !lines[k].equals(m.group(1) + "}")) k++;
      check(k - i < 60, "line " + (i + 1) + ": a method of " + (k - i) + " lines");
    }
  }

  public static void main(String[] args) throws Exception {
    face();
    String source = Files.readString(Path.of("src/main/java/CrustCrumb.java"));
    words(bare(source));
    methodLengths(source);
    for (int i = 0; i < source.length(); i++) check(source.charAt(i) < 128, "the sign at " + i);
    System.out.println(wrong == 0 ? "the face and the rules are as due" : wrong + " not as due");
    if (wrong != 0) System.exit(1);
  }
}
