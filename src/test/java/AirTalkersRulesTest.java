import java.lang.management.ManagementFactory;
import java.lang.reflect.Constructor;
import java.lang.reflect.Field;
import java.lang.reflect.Method;
import java.lang.reflect.Modifier;
import java.nio.file.Files;
import java.nio.file.Path;
import java.util.Set;
import java.util.TreeSet;
import java.util.regex.Matcher;
import java.util.regex.Pattern;

/** What can be checked of LANGUAGE.md: the face, the words of the source, and what calls take of the room. */
public final class AirTalkersRulesTest {
  static int wrong = 0;

  static void hold(boolean holds, String rule) {
    if (!holds) {
      wrong++;
      System.out.println("does not hold: " + rule);
    }
  }

  /** The calls as the document's face tells them: "int row(int,int)". */
  static Set<String> faceOfDocument() throws Exception {
    String doc = Files.readString(Path.of("../shared/DOC.md"));
    String face = doc.substring(doc.indexOf("```java"), doc.indexOf("## Terms"));
    Set<String> calls = new TreeSet<>();
    Matcher call = Pattern.compile("public (int|long) (\\w+)\\(([^)]*)\\);").matcher(face);
    while (call.find()) {
      String types = call.group(3).replaceAll("(int|long) \\w+", "$1").replace(" ", "");
      calls.add(call.group(1) + " " + call.group(2) + "(" + types + ")");
    }
    return calls;
  }

  static void face() throws Exception {
    Set<String> calls = new TreeSet<>();
    Set<String> names = new TreeSet<>();
    for (Method m : AirTalkers.class.getDeclaredMethods()) {
      if (!Modifier.isPublic(m.getModifiers())) continue;
      StringBuilder types = new StringBuilder();
      for (Class<?> type : m.getParameterTypes()) types.append(types.length() == 0 ? "" : ",").append(type.getName());
      calls.add(m.getReturnType().getName() + " " + m.getName() + "(" + types + ")");
      names.add(m.getName());
    }
    hold(calls.equals(faceOfDocument()), "the calls are those of the document: " + calls);
    hold(calls.size() == 40, "the document has 40 calls beside the constructor");
    for (Method m : AirTalkers.class.getDeclaredMethods()) {
      hold(Modifier.isPublic(m.getModifiers()) || Modifier.isPrivate(m.getModifiers()), "rule 1, a member that is neither public nor private: " + m);
      hold(Modifier.isPublic(m.getModifiers()) || !names.contains(m.getName()), "rule 1, a private method with a public one's name: " + m);
    }
    for (Field f : AirTalkers.class.getDeclaredFields()) {
      hold(Modifier.isPublic(f.getModifiers()) ? f.getName().matches("BAD|FULL|FINDING|STATE|SPENT|NONE") : Modifier.isPrivate(f.getModifiers()), "rule 1: " + f);
      hold(!Modifier.isStatic(f.getModifiers()) || Modifier.isFinal(f.getModifiers()), "rule 5: " + f);
    }
    Constructor<?>[] made = AirTalkers.class.getDeclaredConstructors();
    hold(made.length == 1 && Modifier.isPublic(made[0].getModifiers()) && made[0].getParameterCount() == 0, "rule 1: one constructor");
    hold(Modifier.isFinal(AirTalkers.class.getModifiers()), "rule 1: the class is final");
    hold(AirTalkers.BAD == -1 && AirTalkers.FULL == -2 && AirTalkers.FINDING == -3, "the constants");
    hold(AirTalkers.STATE == -4 && AirTalkers.SPENT == -6 && AirTalkers.NONE == -9, "the constants");
    for (Class<?> inner : AirTalkers.class.getDeclaredClasses()) {
      hold(Modifier.isStatic(inner.getModifiers()), "rule 2: " + inner);
      for (Method m : inner.getDeclaredMethods()) hold(!names.contains(m.getName()), "a public call's name within a class: " + m);
    }
  }

  static void words() throws Exception {
    String source = Files.readString(Path.of("src/main/java/AirTalkers.java"));
    String code = source.replaceAll("(?s)/\\*.*?\\*/", " ").replaceAll("//[^\n]*", " ");
    for (String word : new String[] {"throw", "throws", "try", "catch", "finally", "synchronized", "assert", "import", "package",
        "protected", "volatile", "transient", "native", "strictfp", "var", "Object", "System\\.(?!arraycopy)\\w+", "\\w+Exact",
        "hashCode", "toString", "equals", "float", "double"}) {
      Matcher m = Pattern.compile("\\b" + word + "\\b").matcher(code);
      hold(!m.find(), "no word '" + word + "' in the source");
    }
    for (String sign : new String[] {"->", "::", "\"", "static {", "@"}) hold(!code.contains(sign), "no sign '" + sign + "' in the source");
    for (int i = 0; i < source.length(); i++) hold(source.charAt(i) < 128, "rule 4: signs 1 to 127");
    Matcher head = Pattern.compile("(?m)^ +(?:[\\w\\[\\]]+ )+\\w+\\(([^)]*)\\) \\{$").matcher(code);
    while (head.find()) hold(head.group(1).split(",").length <= 7, "rule 11: at most seven parameters: " + head.group());
    Matcher body = Pattern.compile("(?ms)^( +)(?:[\\w\\[\\]]+ )+\\w+\\([^)]*\\) \\{$.*?^\\1\\}$").matcher(code);
    while (body.find()) hold(body.group().split("\n").length <= 60, "rule 11: some sixty lines: " + body.group().split("\n")[0]);
  }

  static long taken() {
    return ((com.sun.management.ThreadMXBean) ManagementFactory.getThreadMXBean()).getThreadAllocatedBytes(Thread.currentThread().getId());
  }

  static long everyCall(AirTalkers x) {
    long sum = x.row(0, 3) + x.lay(0, 0, 6) + x.at(0, 0) + x.mean(0) + x.copy(0, 0, 0, 1, 2) + x.fault(0) + x.air(0) + x.station(0, 1) + x.mark(1, 1);
    sum += x.slot() + x.give(0, 1) + x.drop(0) + x.first(0, 9) + x.keep(0) + x.undo(1) + x.on(0) + x.talks() + x.later(0, 100) + x.ends() + x.clash();
    sum += x.most(100) + x.best(1) + x.silence(40) + x.lay(0, 0, 0) + x.row(0, 1) + x.kinds(1, 0) + x.firsts(1, 0) + x.test(1, 0) + x.duel(3);
    sum += x.odds(40, 5) + x.mid(40, 5) + x.lots(20, 7) + x.asked() + x.upper() + x.lower() + x.count(9) + x.finding() + x.findings(1) + x.digest();
    return sum + x.text(1, 60) + x.put(1, 0, 1) + x.tear(0);
  }

  static void room() {
    AirTalkers x = new AirTalkers();
    String text = "p019 d112 o113 s314 l243 y122 p991";
    x.text(0, text.length());
    for (int i = 0; i < text.length(); i++) x.put(0, i, text.charAt(i));
    everyCall(x);
    taken();
    long before = taken();
    everyCall(x);
    long calls = taken() - before;
    hold(calls < 2000, "calls make no objects: " + calls + " bytes taken");
    before = taken();
    AirTalkers made = new AirTalkers();
    long object = taken() - before;
    hold(made.count(0) == 0 && object < 12000, "an object is small: " + object + " bytes taken");
  }

  public static void main(String[] args) throws Exception {
    face();
    words();
    room();
    System.out.println(wrong == 0 ? "the rules hold" : wrong + " rules do not hold");
    if (wrong != 0) System.exit(1);
  }
}
