import java.io.ByteArrayOutputStream;
import java.io.IOException;
import java.lang.reflect.Method;
import java.lang.reflect.Modifier;
import java.net.URL;
import java.net.URLClassLoader;
import java.nio.file.Files;
import java.nio.file.Path;
import java.util.ArrayList;
import java.util.Comparator;
import java.util.List;
import java.util.regex.Matcher;
import java.util.regex.Pattern;
import java.util.stream.Collectors;
import java.util.stream.Stream;
import javax.tools.JavaCompiler;
import javax.tools.ToolProvider;

/**
 * README.md: its Java is compiled and run as it stands, and each answer that a comment names is held against the
 * one that the call gives; its shell lines are run, but for .ci/run itself, which runs this test.
 */
public final class AirTalkersReadmeTest {
  static final String ANSWER = "// (-?\\d+|BAD|FULL|FINDING|STATE|SPENT|NONE|true|false)(?=:|$).*";
  static final Pattern CALL = Pattern.compile("(x\\.\\w+\\([^;]*\\)); *(?:" + ANSWER + "|//.*)?");
  static final Pattern NAMED = Pattern.compile("((?:int|long|boolean) (\\w+) = .*;) *" + ANSWER);
  static int wrong = 0, answers = 0;

  record Line(int number, String text) {}

  static void say(String what) {
    wrong++;
    System.out.println("README.md" + what);
  }

  static void hold(boolean holds, String what) {
    if (!holds) say(" does not hold: " + what);
  }

  // ---- what the README's own program calls

  public static void due(int line, String call, long got, long want) {
    answers++;
    if (got != want) say(":" + line + ": " + call + " answered " + got + ", the README says " + want);
  }

  public static void due(int line, String call, boolean got, boolean want) {
    answers++;
    if (got != want) say(":" + line + ": " + call + " is " + got + ", the README says " + want);
  }

  // ---- its pieces

  static List<List<Line>> pieces(List<String> page, String language) {
    List<List<Line>> all = new ArrayList<>();
    boolean inside = false;
    for (int k = 0; k < page.size(); k++) {
      String text = page.get(k);
      if (inside && text.equals("```")) inside = false;
      else if (inside) all.get(all.size() - 1).add(new Line(k + 1, text));
      else if (text.equals("```" + language)) {
        inside = true;
        all.add(new ArrayList<>());
      }
    }
    hold(!inside && !all.isEmpty(), "pieces of " + language + " that end");
    return all;
  }

  static String word(String answer) {
    return Character.isUpperCase(answer.charAt(0)) ? "AirTalkers." + answer : answer;
  }

  static String due(Line line, String told, String got, String answer) {
    return "AirTalkersReadmeTest.due(" + line.number() + ", \"" + told.replace("\"", "\\\"") + "\", " + got + ", " + word(answer) + ");";
  }

  /** A line of Java with the check of the answer that its comment names. */
  static String checked(Line line) {
    Matcher named = NAMED.matcher(line.text());
    if (named.matches()) return named.group(1) + " " + due(line, named.group(2), named.group(2), named.group(3));
    Matcher call = CALL.matcher(line.text());
    if (!call.matches()) return line.text();
    if (call.group(2) == null) {
      say(":" + line.number() + ": " + call.group(1) + " names no answer");
      return line.text();
    }
    return due(line, call.group(1), call.group(1), call.group(2));
  }

  static String program(List<List<Line>> pieces) {
    String body = pieces.stream().flatMap(List::stream).map(AirTalkersReadmeTest::checked).collect(Collectors.joining("\n"));
    return "public final class ReadmeUse {\npublic static void use() {\n" + body + "\n}\n}\n";
  }

  static void run(String program, Path folder) throws Exception {
    Path source = Files.writeString(folder.resolve("ReadmeUse.java"), program);
    JavaCompiler javac = ToolProvider.getSystemJavaCompiler();
    if (javac == null) {
      say(": there is no javac to compile it");
      return;
    }
    ByteArrayOutputStream said = new ByteArrayOutputStream();
    String[] options = {"-encoding", "UTF-8", "-cp", System.getProperty("java.class.path"), "-d", folder.toString(), source.toString()};
    if (javac.run(null, said, said, options) != 0) {
      say(": its Java does not compile:\n" + said);
      return;
    }
    try (URLClassLoader loader = new URLClassLoader(new URL[] {folder.toUri().toURL()}, AirTalkersReadmeTest.class.getClassLoader())) {
      loader.loadClass("ReadmeUse").getMethod("use").invoke(null);
    }
  }

  // ---- what it names

  static void showsEveryCall(List<List<Line>> pieces) {
    String code = pieces.stream().flatMap(List::stream).map(Line::text).collect(Collectors.joining("\n"));
    for (Method m : AirTalkers.class.getDeclaredMethods()) {
      if (Modifier.isPublic(m.getModifiers())) hold(code.contains("x." + m.getName() + "("), "the use of " + m.getName() + "() is shown");
    }
  }

  static void namesNumbers(List<String> page) throws ReflectiveOperationException {
    int rows = 0;
    for (String text : page) {
      Matcher row = Pattern.compile("\\| `([A-Z]+)` \\| (-\\d+) \\|.*").matcher(text);
      if (!row.matches()) continue;
      rows++;
      hold(AirTalkers.class.getField(row.group(1)).getInt(null) == Integer.parseInt(row.group(2)), "the number in '" + text + "'");
    }
    hold(rows == AirTalkers.class.getFields().length, "each of the class's constants has a row");
  }

  static void namesKinds(List<String> page) {
    int rows = 0;
    for (String text : page) {
      Matcher row = Pattern.compile("\\| `([a-z])` \\| (\\d) [A-Z]+ \\|.*").matcher(text);
      if (!row.matches()) continue;
      rows++;
      hold(kindOf(row.group(1)) == Integer.parseInt(row.group(2)), "the letter and the kind in '" + text + "'");
    }
    hold(rows == 6, "each of the six kinds has a row");
  }

  static int kindOf(String letter) {
    AirTalkers x = new AirTalkers();
    String air = letter + "010p010";
    x.text(0, air.length());
    for (int i = 0; i < air.length(); i++) x.put(0, i, air.charAt(i));
    return x.air(0) == 2 && x.station(0, 0) == 1 ? x.asked() : AirTalkers.NONE;
  }

  static void namesTests(String page) throws IOException {
    try (Stream<Path> tests = Files.list(Path.of("src/test/java"))) {
      for (Path test : tests.toList()) {
        String name = test.getFileName().toString().replace(".java", "");
        hold(page.contains("- `" + name), "the test " + name + " is told");
      }
    }
    Matcher told = Pattern.compile("AirTalkers\\w+Test").matcher(page);
    while (told.find()) hold(Files.exists(Path.of("src/test/java", told.group() + ".java")), "the test " + told.group() + " is there");
  }

  static void runsTests(List<List<Line>> pieces) throws Exception {
    boolean all = false;
    for (List<Line> piece : pieces) {
      String lines = piece.stream().map(Line::text).collect(Collectors.joining("\n"));
      if (lines.equals(".ci/run")) {
        all = Files.isExecutable(Path.of(".ci/run"));
        continue;
      }
      Process shell = new ProcessBuilder("bash", "-e", "-c", lines).redirectErrorStream(true).start();
      String said = new String(shell.getInputStream().readAllBytes());
      if (shell.waitFor() != 0) say(":" + piece.get(0).number() + ": these lines fail:\n" + said);
    }
    hold(all, "all tests are run by .ci/run, which can be run");
  }

  static void remove(Path folder) throws IOException {
    try (Stream<Path> files = Files.walk(folder)) {
      for (Path file : files.sorted(Comparator.reverseOrder()).toList()) Files.delete(file);
    }
  }

  public static void main(String[] args) throws Exception {
    List<String> page = Files.readAllLines(Path.of("README.md"));
    List<List<Line>> java = pieces(page, "java");
    Path folder = Files.createTempDirectory("readme");
    try {
      run(program(java), folder);
    } finally {
      remove(folder);
    }
    showsEveryCall(java);
    namesNumbers(page);
    namesKinds(page);
    namesTests(String.join("\n", page));
    runsTests(pieces(page, "sh"));
    hold(answers > 0, "answers are named");
    System.out.println(wrong == 0 ? answers + " answers of README.md are as due" : wrong + " things of README.md are not as due");
    if (wrong != 0) System.exit(1);
  }
}
