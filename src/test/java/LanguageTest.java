import java.lang.reflect.Constructor;
import java.lang.reflect.Field;
import java.lang.reflect.Member;
import java.lang.reflect.Method;
import java.lang.reflect.Modifier;
import java.nio.charset.StandardCharsets;
import java.nio.file.Files;
import java.nio.file.Path;
import java.util.ArrayList;
import java.util.List;
import java.util.Set;
import java.util.TreeSet;
import java.util.regex.Matcher;
import java.util.regex.Pattern;

/** The rules of LANGUAGE.md that can be seen from outside, and the face of the document. */
public final class LanguageTest {
  private static final Set<String> LIBRARY = Set.of("ArrayList", "Arrays", "Math", "Integer", "System");

  private static int wrong = 0;

  public static void main(String[] args) throws Exception {
    face();
    classesInside();
    words();
    methodsAreShort();
    neverThrows();
    System.out.println("LanguageTest: " + wrong + " faults");
    if (wrong != 0) {
      System.exit(1);
    }
  }

  private static void fault(String what) {
    wrong++;
    System.out.println(what);
  }

  private static String sign(String name, Class<?>[] types) {
    StringBuilder all = new StringBuilder(name).append('(');
    for (int i = 0; i < types.length; i++) {
      all.append(i == 0 ? "" : ",").append(types[i].getName());
    }
    return all.append(')').toString();
  }

  /** The members in the document's code block, without the names of what they take. */
  private static Set<String> documentFace() throws Exception {
    String document = Files.readString(Path.of("../shared/DOC.md"));
    int begin = document.indexOf("public final class DotPress {");
    String block = document.substring(begin, document.indexOf("```", begin));
    Set<String> members = new TreeSet<>();
    Matcher member = Pattern.compile("public (?:int )?(\\w+)\\(([^)]*)\\);").matcher(block);
    while (member.find()) {
      String types = member.group(2).replaceAll(" \\w+(?=,|$)", "").replace(" ", "");
      members.add(member.group(1) + "(" + types + ")");
    }
    if (members.size() != 40) {
      fault("the document's face has " + members.size() + " members");
    }
    return members;
  }

  private static void face() throws Exception {
    Set<String> seen = new TreeSet<>();
    Set<String> names = new TreeSet<>();
    for (Constructor<?> made : DotPress.class.getDeclaredConstructors()) {
      seen.add(sign("DotPress", made.getParameterTypes()));
    }
    for (Method method : DotPress.class.getDeclaredMethods()) {
      if (Modifier.isPublic(method.getModifiers())) {
        seen.add(sign(method.getName(), method.getParameterTypes()));
        names.add(method.getName());
        if (method.getReturnType() != int.class || Modifier.isStatic(method.getModifiers())) {
          fault("rule 1: " + method);
        }
      }
    }
    Set<String> due = documentFace();
    if (!seen.equals(due)) {
      fault("rule 1: the face is " + seen + ", the document has " + due);
    }
    if (!Modifier.isFinal(DotPress.class.getModifiers()) || DotPress.class.getFields().length > 0) {
      fault("rule 1: the class is not final, or has a field that is seen");
    }
    List<Member> others = new ArrayList<>(List.of(DotPress.class.getDeclaredMethods()));
    others.addAll(List.of(DotPress.class.getDeclaredFields()));
    for (Member member : others) {
      boolean isFace = Modifier.isPublic(member.getModifiers()) && member instanceof Method;
      if (!isFace && !Modifier.isPrivate(member.getModifiers())) {
        fault("rule 1: " + member + " is not private");
      }
      if (!isFace && member instanceof Method && names.contains(member.getName())) {
        fault("rule 1: " + member + " bears the name of a public one");
      }
    }
    for (Class<?> inside : DotPress.class.getDeclaredClasses()) {
      for (Method method : inside.getDeclaredMethods()) {
        if (names.contains(method.getName())) {
          fault("rule 1: " + method + " bears the name of a public one");
        }
      }
    }
  }

  private static void classesInside() {
    Class<?>[] inside = DotPress.class.getDeclaredClasses();
    if (inside.length + 1 > 12) {
      fault("rule 11: " + (inside.length + 1) + " classes");
    }
    List<Class<?>> all = new ArrayList<>(List.of(inside));
    all.add(DotPress.class);
    for (Class<?> type : all) {
      if (type != DotPress.class && !Modifier.isStatic(type.getModifiers())) {
        fault("rule 1: " + type + " is not static");
      }
      int fields = 0;
      for (Field field : type.getDeclaredFields()) {
        int is = field.getModifiers();
        fields += Modifier.isStatic(is) ? 0 : 1;
        if (Modifier.isStatic(is) && (!Modifier.isFinal(is) || field.getType() != int.class)) {
          fault("rule 5: " + field);
        }
      }
      if (fields > 20) {
        fault("rule 11: " + type + " has " + fields + " fields");
      }
      for (Method method : type.getDeclaredMethods()) {
        if (method.getParameterCount() > 7) {
          fault("rule 11: " + method);
        }
      }
    }
  }

  private static String source() throws Exception {
    return Files.readString(Path.of("src/main/java/DotPress.java"), StandardCharsets.US_ASCII);
  }

  private static String code() throws Exception {
    return source().replaceAll("(?s)/\\*.*?\\*/", "").replaceAll("//[^\n]*", "");
  }

  private static void words() throws Exception {
    String code = code();
    String no = "throw|throws|try|catch|finally|synchronized|assert|volatile|native|instanceof|package"
        + "|protected|interface|enum|record|extends|implements|Object|String|double|float|Exception";
    Matcher found = Pattern.compile("\\b(" + no + ")\\b|->|::|\"").matcher(code);
    while (found.find()) {
      fault("rule 2, 4 or 6: " + found.group());
    }
    found = Pattern.compile("import ([^;]*);").matcher(code);
    while (found.find()) {
      if (!Set.of("java.util.ArrayList", "java.util.Arrays").contains(found.group(1))) {
        fault("rule 4: import " + found.group(1));
      }
    }
    found = Pattern.compile("\\b([A-Z]\\w*)\\.(\\w+)\\(").matcher(code);
    Set<String> calls = Set.of("Math.max", "Math.min", "Integer.bitCount", "System.arraycopy",
        "Arrays.copyOf", "Arrays.fill");
    while (found.find()) {
      String call = found.group(1) + "." + found.group(2);
      if (LIBRARY.contains(found.group(1)) && !calls.contains(call)) {
        fault("rule 4: " + call);
      }
    }
  }

  private static void methodsAreShort() throws Exception {
    String[] lines = source().split("\n");
    int begin = -1;
    for (int i = 0; i < lines.length; i++) {
      if (lines[i].matches("(  |    )\\w[^=;]*\\) \\{")) {
        begin = i;
      }
      if (begin >= 0 && lines[i].matches("(  |    )\\}") && i - begin > 60) {
        fault("rule 11: " + lines[begin].trim() + " has " + (i - begin) + " lines");
      }
      if (lines[i].length() > 100) {
        fault("a line of more than 100 characters: " + (i + 1));
      }
    }
  }

  /** Calls beyond the promised ones, with arguments at all edges, never throw. */
  private static void neverThrows() throws Exception {
    int[] edges = {0, 1, 2, -1, 3, 6, 8, 200, 201, Integer.MAX_VALUE, Integer.MIN_VALUE, 50, 5};
    List<Method> methods = new ArrayList<>();
    for (Method method : DotPress.class.getDeclaredMethods()) {
      if (Modifier.isPublic(method.getModifiers())) {
        methods.add(method);
      }
    }
    methods.sort((a, b) -> a.getName().compareTo(b.getName()));
    java.util.Random random = new java.util.Random(1);
    for (int run = 0; run < 30; run++) {
      DotPress x = new DotPress();
      for (int call = 0; call < 4000; call++) {
        Method method = methods.get(random.nextInt(methods.size()));
        Object[] given = new Object[method.getParameterCount()];
        for (int i = 0; i < given.length; i++) {
          int edge = edges[random.nextInt(edges.length)];
          int value = method.getName().equals("feed") ? 0x61620102 : edge;
          given[i] = method.getParameterTypes()[i] == boolean.class ? (Object) (edge > 1) : value;
        }
        if (random.nextInt(3) == 0) {
          Check.rule(x, random.nextInt(3), 0, "ab".substring(random.nextInt(2)), 1 + random.nextInt(3));
        } else if (random.nextInt(3) == 0) {
          Check.text(x, "ab a b ab~ab\n^ab");
        }
        method.invoke(x, given);
      }
    }
  }
}
