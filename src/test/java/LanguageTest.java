import java.io.IOException;
import java.lang.reflect.Constructor;
import java.lang.reflect.Field;
import java.lang.reflect.Method;
import java.lang.reflect.Modifier;
import java.nio.file.Files;
import java.nio.file.Path;
import java.util.HashSet;
import java.util.List;
import java.util.Set;
import java.util.TreeSet;

/** What can be seen of LANGUAGE.md: the face, the words that are not used, lengths and counts. */
public final class LanguageTest {
  private static final List<String> FACE = List.of("feed", "end", "read", "place", "rule", "broken", "size", "feature", "at",
      "area2", "length", "spot", "move", "drop", "revalue", "undo", "lay", "laid", "node", "piece", "face", "faceArea2", "locate",
      "overlay", "other", "relate", "relation", "bar", "route", "routeNode", "corner", "raster", "cell", "rasterSize", "algebra",
      "spread", "strays");

  public static void main(String[] args) throws IOException {
    face();
    members(LandMap.class);
    Feeder.due("classes", LandMap.class.getDeclaredClasses().length <= 12, true);
    for (Class<?> inner : LandMap.class.getDeclaredClasses()) members(inner);
    source(Files.readString(Path.of("src/main/java/LandMap.java")));
    Feeder.finish("LanguageTest");
  }

  private static void face() {
    Set<String> found = new TreeSet<>();
    for (Method method : LandMap.class.getDeclaredMethods()) {
      int kind = method.getModifiers();
      if (method.isSynthetic()) continue;
      if (Modifier.isPublic(kind)) found.add(method.getName());
      else Feeder.due(method + " is private", Modifier.isPrivate(kind), true);
    }
    Feeder.due("the face", found.equals(new TreeSet<>(FACE)), true);
    Feeder.due("final", Modifier.isFinal(LandMap.class.getModifiers()), true);
    Constructor<?>[] makers = LandMap.class.getDeclaredConstructors();
    Feeder.due("one constructor", makers.length == 1 && Modifier.isPublic(makers[0].getModifiers()), true);
    for (Field field : LandMap.class.getDeclaredFields()) {
      Feeder.due(field + " is private", Modifier.isPrivate(field.getModifiers()), true);
    }
  }

  private static void members(Class<?> type) {
    Set<String> names = new HashSet<>(FACE);
    int fields = 0;
    for (Field field : type.getDeclaredFields()) {
      boolean fixed = Modifier.isStatic(field.getModifiers());
      if (!fixed) fields++;
      else Feeder.due(field + " is final", Modifier.isFinal(field.getModifiers()), true);
    }
    Feeder.due(type + " has some twenty fields", fields <= 20, true);
    Feeder.due(type + " is static", type == LandMap.class || Modifier.isStatic(type.getModifiers()), true);
    for (Method method : type.getDeclaredMethods()) {
      Feeder.due(method + " takes at most seven", method.getParameterCount() <= 7, true);
      if (type != LandMap.class) Feeder.due(method + " bears no public name", names.contains(method.getName()), false);
    }
  }

  private static void source(String text) {
    String bare = text.replaceAll("(?s)/\\*.*?\\*/", "").replaceAll("//[^\n]*", "").replaceAll("\"[^\"\n]*\"", "\"\"");
    String[] words = {"throw", "throws", "try", "catch", "synchronized", "assert", "double", "float", "System\\.out", "package",
        "->", "::", "while \\(true", "Object", "hashCode", "toString", "Exact", "random", "Thread"};
    for (String word : words) {
      String sign = Character.isLetter(word.charAt(0)) ? "\\b" + word : word;
      Feeder.due("no " + word, java.util.regex.Pattern.compile(sign).matcher(bare).find(), false);
    }
    Feeder.due("one import", bare.split("\nimport ", -1).length, 1);
    Feeder.due("the import", bare.trim().startsWith("import java.util.Arrays;"), true);
    int start = -1;
    String[] lines = text.split("\n");
    for (int i = 0; i < lines.length; i++) {
      if (lines[i].matches("( {2}| {4})[a-z].*\\) \\{")) start = i;
      if (start >= 0 && lines[i].matches("( {2}| {4})\\}")) {
        Feeder.due(lines[start] + " is short", i - start < 60, true);
        start = -1;
      }
      Feeder.due("line " + (i + 1) + " is short", lines[i].length() <= 120, true);
    }
  }
}
