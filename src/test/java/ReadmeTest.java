import java.io.IOException;
import java.io.InputStream;
import java.lang.reflect.Method;
import java.lang.reflect.Modifier;
import java.nio.charset.StandardCharsets;
import java.nio.file.Files;
import java.nio.file.Path;
import java.util.ArrayList;
import java.util.List;
import java.util.Map;
import java.util.TreeMap;
import java.util.TreeSet;
import java.util.regex.Matcher;
import java.util.regex.Pattern;
import java.util.stream.Stream;

/**
 * What README.md says is tried as it is written there: its programs and commands in a copy of the
 * project, its tables against the face. To be started where README.md is.
 */
public final class ReadmeTest {
  private static final Path README = Path.of("README.md");
  private static final String ALL_TESTS = ".ci/run";
  private static final Pattern ROW = Pattern.compile("\\| `(\\w+)\\((.*?)\\)` \\| (.+) \\| (.+) \\|");
  private static final Pattern TEST = Pattern.compile("`(\\w+Test)`");
  private static final Pattern CLASS = Pattern.compile("public class (\\w+)");
  private static final Map<String, String> EXCEPTIONS = Map.of(
      "Index", "IndexOutOfBoundsException",
      "Argument", "IllegalArgumentException",
      "State", "IllegalStateException");

  private final List<String> lines;
  private final Map<String, Integer> blocks = new TreeMap<>();
  private Path project;
  private String printed = "";

  private ReadmeTest(List<String> lines) {
    this.lines = lines;
  }

  public static void main(String[] args) throws IOException, InterruptedException {
    ReadmeTest test = new ReadmeTest(Files.readAllLines(README));
    test.tables();
    test.testsByName();
    Path copy = Files.createTempDirectory("readme");
    try {
      test.project = copy.resolve("project");
      copyAll(Path.of("src"), test.project.resolve("src"));
      copyAll(Path.of("../shared/tests"), copy.resolve("shared/tests"));
      test.blocks();
    } finally {
      removeAll(copy);
    }
    Check.is("{java=2, sh=5, text=2}", test.blocks.toString(), "what README.md has to be tried");
    Check.end();
  }

  // ---- the tables

  private void tables() {
    Map<String, Method> face = new TreeMap<>();
    for (Method method : Bookingstree.class.getDeclaredMethods()) {
      if (Modifier.isPublic(method.getModifiers())) {
        face.put(method.getName(), method);
      }
    }
    for (String line : lines) {
      Matcher row = ROW.matcher(line);
      if (row.matches()) {
        Method method = face.remove(row.group(1));
        Check.is(true, method != null, "there is such a call, told once: " + row.group(1));
        if (method != null) {
          compare(method, row.group(2), row.group(4));
        }
      }
    }
    Check.is("[]", face.keySet().toString(), "calls that no table tells");
  }

  private static void compare(Method method, String given, String thrown) {
    int many = given.isEmpty() ? 0 : given.split(", ").length;
    Check.is(method.getParameterCount(), many, method.getName() + " is given so many");
    List<String> due = new ArrayList<>();
    for (Class<?> exception : method.getExceptionTypes()) {
      due.add(exception.getSimpleName());
    }
    List<String> told = new ArrayList<>();
    for (String clause : thrown.split("; ")) {
      String name = clause.split(":")[0];
      if (!name.equals("nothing")) {
        told.add(EXCEPTIONS.getOrDefault(name, name));
      }
    }
    Check.is(due, told, method.getName() + " throws");
  }

  private void testsByName() throws IOException {
    TreeSet<String> told = new TreeSet<>();
    Matcher name = TEST.matcher(String.join("\n", lines));
    while (name.find()) {
      told.add(name.group(1));
    }
    TreeSet<String> due = new TreeSet<>();
    try (Stream<Path> files = Files.list(Path.of("src/test/java"))) {
      files.map(file -> file.getFileName().toString())
          .filter(file -> file.endsWith("Test.java"))
          .forEach(file -> due.add(file.substring(0, file.length() - ".java".length())));
    }
    Check.is(due, told, "the tests that README.md names");
  }

  // ---- the blocks

  private void blocks() throws IOException, InterruptedException {
    String kind = "";
    StringBuilder block = new StringBuilder();
    for (String line : lines) {
      if (!line.startsWith("```")) {
        block.append(line).append('\n');
      } else if (kind.isEmpty()) {
        kind = line.substring(3);
        block.setLength(0);
      } else {
        blocks.merge(kind, 1, Integer::sum);
        attempt(kind, block.toString());
        kind = "";
      }
    }
    Check.is("", kind, "a block that has no end");
  }

  private void attempt(String kind, String block) throws IOException, InterruptedException {
    switch (kind) {
      case "java": put(block); break;
      case "sh": call(block); break;
      default: Check.is(block, printed, "what is printed"); break;
    }
  }

  private void put(String program) throws IOException {
    Matcher name = CLASS.matcher(program);
    if (!name.find()) {
      Check.is("a class", "none", "a program of README.md");
      return;
    }
    String file = name.group(1) + ".java";
    Check.is(true, String.join("\n", lines).contains("Put this into `" + file + "`"),
        "README.md tells where to put " + file);
    Files.writeString(project.resolve(file), program);
  }

  /** The command for all tests would call this one again: it is CI that tries it. */
  private void call(String commands) throws IOException, InterruptedException {
    if (commands.trim().equals(ALL_TESTS)) {
      Check.is(true, Files.isExecutable(Path.of(ALL_TESTS)), ALL_TESTS + " can be called");
      return;
    }
    Process process = new ProcessBuilder("sh", "-e", "-c", commands).directory(project.toFile())
        .redirectError(ProcessBuilder.Redirect.INHERIT).start();
    process.getOutputStream().close();
    try (InputStream output = process.getInputStream()) {
      printed = new String(output.readAllBytes(), StandardCharsets.UTF_8);
    }
    int exit = process.waitFor();
    Check.is(0, exit, "the exit code of\n" + commands);
    if (exit != 0) {
      System.out.println(printed);
    }
  }

  // ---- the copy

  private static void copyAll(Path from, Path to) throws IOException {
    for (Path file : below(from)) {
      Path copy = to.resolve(from.relativize(file).toString());
      if (Files.isDirectory(file)) {
        Files.createDirectories(copy);
      } else {
        Files.copy(file, copy);
      }
    }
  }

  private static void removeAll(Path root) throws IOException {
    List<Path> files = below(root);
    for (int i = files.size() - 1; i >= 0; i--) {
      Files.delete(files.get(i));
    }
  }

  /** A directory comes ahead of what is in it. */
  private static List<Path> below(Path root) throws IOException {
    try (Stream<Path> files = Files.walk(root)) {
      return new ArrayList<>(files.toList());
    }
  }
}
