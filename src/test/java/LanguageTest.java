import java.io.DataInputStream;
import java.io.IOException;
import java.io.InputStream;
import java.lang.reflect.Field;
import java.lang.reflect.Method;
import java.lang.reflect.Modifier;
import java.nio.charset.StandardCharsets;
import java.nio.file.Files;
import java.nio.file.Path;
import java.util.ArrayList;
import java.util.Collections;
import java.util.List;
import java.util.Set;
import java.util.TreeSet;

/** Rules of LANGUAGE.md that can be seen in the text or in the compiled classes: what is used, and how much of it. */
public final class LanguageTest {
  private static final int MOST_CLASSES = 12, MOST_FIELDS = 20, MOST_PARAMETERS = 7, MOST_LINES = 60;
  private static final Set<String> LIBRARY = Set.of("Object.<init>", "IllegalArgumentException.<init>", "IllegalStateException.<init>",
      "Integer.bitCount", "Integer.numberOfLeadingZeros", "Integer.signum", "Math.abs", "Math.floorDiv", "Math.max", "Math.min",
      "StringBuilder.<init>", "StringBuilder.append", "StringBuilder.charAt", "StringBuilder.length", "StringBuilder.setLength",
      "System.arraycopy", "ArrayList.<init>", "ArrayList.add", "ArrayList.get", "ArrayList.set", "ArrayList.size", "Arrays.copyOf",
      "Arrays.fill");
  private static final Check CHECK = new Check();

  public static void main(String[] args) throws IOException {
    List<Class<?>> classes = new ArrayList<>(List.of(CellDecide.class.getDeclaredClasses()));
    CHECK.of("rule 11", "the file has at most some twelve classes");
    classes.add(CellDecide.class);
    CHECK.due("classes", Math.max(classes.size(), MOST_CLASSES), MOST_CLASSES);
    for (Class<?> c : classes) {
      fields(c);
      methods(c);
      library(c);
    }
    words();
    lines();
    CHECK.finish();
  }

  private static void fields(Class<?> c) {
    int own = 0;
    for (Field f : c.getDeclaredFields()) {
      int m = f.getModifiers();
      if (!Modifier.isStatic(m)) own++;
      CHECK.of("rule 5", "Static fields are final");
      CHECK.due(c.getName() + "." + f.getName(), Modifier.isStatic(m) && !Modifier.isFinal(m) ? 0 : 1, 1);
    }
    CHECK.of("rule 11", "a class some twenty fields beside its constants");
    CHECK.due("fields of " + c.getName(), Math.max(own, MOST_FIELDS), MOST_FIELDS);
    CHECK.of("rule 1", "the classes inside it, which are private or package-visible and static");
    boolean open = Modifier.isPublic(c.getModifiers()) || Modifier.isProtected(c.getModifiers());
    CHECK.due(c.getName(), c == CellDecide.class || !open && Modifier.isStatic(c.getModifiers()) ? 1 : 0, 1);
  }

  private static void methods(Class<?> c) {
    Set<String> open = new TreeSet<>(), closed = new TreeSet<>();
    CHECK.of("rule 11", "A method takes at most seven parameters");
    for (Method m : c.getDeclaredMethods()) {
      CHECK.due(m.getName(), Math.max(m.getParameterCount(), MOST_PARAMETERS), MOST_PARAMETERS);
      (Modifier.isPublic(m.getModifiers()) ? open : closed).add(m.getName());
    }
    CHECK.of("rule 1", "No private method bears the name of a public one");
    CHECK.due(c.getName(), Collections.disjoint(open, closed) ? 1 : 0, 1);
  }

  /** The methods of the library that a class calls stand among its constants. */
  private static void library(Class<?> c) throws IOException {
    CHECK.of("rule 4", "The library: only what stands here");
    try (InputStream stream = LanguageTest.class.getResourceAsStream(c.getName() + ".class")) {
      for (String call : calls(new DataInputStream(stream))) {
        if (call.startsWith("java/")) CHECK.due(call, LIBRARY.contains(call.substring(call.lastIndexOf('/') + 1)) ? 1 : 0, 1);
      }
    }
  }

  private static List<String> calls(DataInputStream in) throws IOException {
    in.readLong();
    int count = in.readUnsignedShort();
    String[] text = new String[count];
    int[] first = new int[count], second = new int[count];
    boolean[] method = new boolean[count];
    for (int i = 1; i < count; i++) {
      int tag = in.readUnsignedByte();
      method[i] = tag == 10 || tag == 11;
      if (tag == 1) {
        text[i] = in.readUTF();
      } else if (tag == 7 || tag == 8 || tag == 16 || tag == 19 || tag == 20) {
        first[i] = in.readUnsignedShort();
      } else if (tag == 15) {
        in.skipBytes(3);
      } else if (tag == 5 || tag == 6) {
        in.readLong();
        i++;
      } else {
        first[i] = in.readUnsignedShort();
        second[i] = in.readUnsignedShort();
      }
    }
    List<String> calls = new ArrayList<>();
    for (int i = 1; i < count; i++) {
      if (method[i]) calls.add(text[first[first[i]]] + "." + text[first[second[i]]]);
    }
    return calls;
  }

  private static List<String> source() throws IOException {
    return Files.readAllLines(Path.of("src/main/java/CellDecide.java"), StandardCharsets.US_ASCII);
  }

  private static void words() throws IOException {
    Set<String> imports = Set.of("import java.util.ArrayList;", "import java.util.Arrays;");
    Set<String> banned = Set.of("try", "catch", "finally", "synchronized", "assert", "package", "record", "var", "native", "volatile");
    for (String line : source()) {
      CHECK.of("rules 4 and 6", "no finally, synchronized, assert, .. and no library but what stands here", line);
      if (line.startsWith("import")) CHECK.due("import", imports.contains(line) ? 1 : 0, 1);
      String code = line.replaceAll("^\\s*/?\\*.*|//.*|\"[^\"]*\"", "");
      for (String word : code.split("\\W+")) CHECK.due(word, banned.contains(word) ? 0 : 1, 1);
      CHECK.due("lambda", code.contains("->") || code.contains("::") ? 0 : 1, 1);
    }
  }

  /** Methods begin two or four blanks in, and end at a brace as far in. */
  private static void lines() throws IOException {
    CHECK.of("rule 11", "Methods stay short (some sixty lines)");
    List<String> source = source();
    for (int i = 0; i < source.size(); i++) {
      String line = source.get(i);
      if (!line.matches(" {2}(  )?[a-zA-Z].*\\) (throws \\w+ )?\\{")) continue;
      String end = line.substring(0, line.length() - line.stripLeading().length()) + "}";
      int last = i;
      while (last + 1 < source.size() && !source.get(last).equals(end)) last++;
      CHECK.due(line.strip() + " lines", Math.max(last - i + 1, MOST_LINES), MOST_LINES);
    }
  }
}
