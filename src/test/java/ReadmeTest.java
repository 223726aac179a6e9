import java.io.IOException;
import java.lang.reflect.Method;
import java.lang.reflect.Modifier;
import java.net.URL;
import java.net.URLClassLoader;
import java.nio.file.Files;
import java.nio.file.Path;
import java.util.ArrayList;
import java.util.Comparator;
import java.util.List;
import java.util.regex.Matcher;
import java.util.regex.Pattern;
import java.util.stream.Stream;
import javax.tools.JavaCompiler;
import javax.tools.ToolProvider;

/** What README.md shows of the class: its calls are run, its commands too, and its tests are all there are. */
public final class ReadmeTest {
  private static final Pattern BLOCK = Pattern.compile("(?s)```java\n(.*?)```");
  private static final Pattern CALL = Pattern.compile("(map\\..*); +// (true|false|-?\\d+)(: .*)?");
  private static final Pattern NAME = Pattern.compile("`(\\w+)`");

  public static void main(String[] args) throws Exception {
    String readme = Files.readString(Path.of("README.md"));
    Path room = Files.createTempDirectory("readme");
    try {
      calls(readme, room);
      face(readme);
      tests(readme);
      commands(readme, room);
    } finally {
      clear(room);
    }
    Feeder.finish("ReadmeTest");
  }

  private static List<String> blocks(String readme) {
    List<String> found = new ArrayList<>();
    Matcher matcher = BLOCK.matcher(readme);
    while (matcher.find()) found.add(matcher.group(1));
    return found;
  }

  /** Blocks that begin with a method are put beside, all others into one run of calls. */
  private static void calls(String readme, Path room) throws Exception {
    StringBuilder methods = new StringBuilder();
    StringBuilder run = new StringBuilder();
    List<String> names = new ArrayList<>();
    List<String> wanted = new ArrayList<>();
    for (String block : blocks(readme)) {
      if (block.startsWith("static ")) {
        methods.append(block);
        continue;
      }
      for (String line : block.split("\n")) {
        Matcher call = CALL.matcher(line);
        boolean answers = call.matches();
        Feeder.due(line + " names its answer", answers || !line.startsWith("map."), true);
        run.append(answers ? "answers.add(String.valueOf(" + call.group(1) + "));" : line).append('\n');
        if (!answers) continue;
        names.add(call.group(1));
        wanted.add(call.group(2));
      }
    }
    String source = "public final class ReadmeRun {\n" + methods
        + "public static java.util.List<String> run() {\njava.util.List<String> answers = new java.util.ArrayList<>();\n"
        + run + "return answers;\n}\n}\n";
    List<String> answers = runSource(source, room);
    Feeder.due("README.md shows calls", names.size() > 60 && names.size() == answers.size(), true);
    for (int i = 0; i < names.size() && i < answers.size(); i++) {
      boolean same = answers.get(i).equals(wanted.get(i));
      Feeder.due("README.md: " + names.get(i) + " answers " + answers.get(i) + ", not " + wanted.get(i), same, true);
    }
  }

  private static List<String> runSource(String source, Path room) throws Exception {
    Path file = room.resolve("ReadmeRun.java");
    Files.writeString(file, source);
    JavaCompiler compiler = ToolProvider.getSystemJavaCompiler();
    String path = System.getProperty("java.class.path");
    int code = compiler.run(null, null, null, "-cp", path, "-d", room.toString(), file.toString());
    Feeder.due("README.md's calls compile", code, 0);
    List<String> answers = new ArrayList<>();
    if (code != 0) return answers;
    try (URLClassLoader loader = new URLClassLoader(new URL[] {room.toUri().toURL()})) {
      Object got = loader.loadClass("ReadmeRun").getMethod("run").invoke(null);
      for (Object answer : (List<?>) got) answers.add(String.valueOf(answer));
    }
    return answers;
  }

  private static void face(String readme) {
    String shown = String.join("\n", blocks(readme));
    for (Method method : LandMap.class.getDeclaredMethods()) {
      if (!Modifier.isPublic(method.getModifiers())) continue;
      Feeder.due("README.md shows " + method.getName(), shown.contains("map." + method.getName() + "("), true);
    }
  }

  private static void tests(String readme) throws IOException {
    List<String> files = new ArrayList<>();
    try (Stream<Path> list = Files.list(Path.of("src/test/java"))) {
      list.forEach(path -> files.add(path.getFileName().toString().replace(".java", "")));
    }
    for (String file : files) Feeder.due("README.md tells of " + file, readme.contains("`" + file + "`"), true);
    Matcher named = NAME.matcher(readme.substring(readme.indexOf("## How to run its tests")));
    while (named.find()) {
      if (!Character.isUpperCase(named.group(1).charAt(0))) continue;
      Feeder.due("README.md's " + named.group(1) + " is there", files.contains(named.group(1)), true);
    }
  }

  /** Indented lines are commands; .ci/run would run this test again, so it is only looked for. */
  private static void commands(String readme, Path room) throws Exception {
    int found = 0;
    for (String line : BLOCK.matcher(readme).replaceAll("").split("\n")) {
      if (!line.startsWith("    ")) continue;
      String command = line.trim();
      found++;
      if (command.equals(".ci/run")) {
        Feeder.due(command + " can be run", Files.isExecutable(Path.of(command)), true);
        continue;
      }
      String there = command.replaceAll("\\bout\\b", room.resolve("out").toString());
      Process process = new ProcessBuilder("bash", "-c", there).redirectErrorStream(true).start();
      process.getOutputStream().close();
      String printed = new String(process.getInputStream().readAllBytes());
      int code = process.waitFor();
      if (code != 0) System.out.println(printed);
      Feeder.due(command + " ends well", code, 0);
    }
    Feeder.due("README.md gives commands", found, 3);
  }

  private static void clear(Path room) throws IOException {
    List<Path> all = new ArrayList<>();
    try (Stream<Path> walk = Files.walk(room)) {
      walk.sorted(Comparator.reverseOrder()).forEach(all::add);
    }
    for (Path path : all) Files.deleteIfExists(path);
  }
}
