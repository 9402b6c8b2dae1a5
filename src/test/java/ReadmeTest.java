import java.io.IOException;
import java.nio.file.Files;
import java.nio.file.Path;
import java.util.ArrayList;
import java.util.Comparator;
import java.util.List;
import java.util.regex.Matcher;
import java.util.regex.Pattern;
import java.util.stream.Stream;

/**
 * What README.md says is so: its example, compiled and run by its own commands, prints what the
 * example's comments say, each row of its table is so, and it names each test.
 */
public final class ReadmeTest {
  private static final Path CLASS = Path.of("src", "main", "java", "Setsieve.java");
  private static final Path TESTS = Path.of("src", "test", "java");
  private static final Pattern PRINTED =
      Pattern.compile(" *System\\.out\\.println\\(.*\\); // (.*)");
  private static final Pattern ROW = Pattern.compile("\\| `(.*)` \\| `(.*)` \\| .* \\|");
  private static int wrong = 0;

  private static void due(String what, Object got, Object want) {
    if (!want.equals(got)) {
      wrong++;
      System.out.println("README.md, " + what + ": got\n" + got + "\ndue is\n" + want);
    }
  }

  /** The lines of the only block that begins with that sign; none, if there is not just one. */
  private static List<String> block(List<String> readme, String sign) {
    int begin = readme.indexOf("```" + sign);
    due("blocks of " + sign, begin >= 0 && begin == readme.lastIndexOf("```" + sign), true);
    if (begin < 0) {
      return List.of();
    }
    List<String> rest = readme.subList(begin + 1, readme.size());
    return rest.subList(0, rest.indexOf("```"));
  }

  /** What a shell prints that runs these commands there. */
  private static List<String> output(Path place, List<String> commands)
      throws IOException, InterruptedException {
    Process shell = new ProcessBuilder("sh", "-e", "-c", String.join("\n", commands))
        .directory(place.toFile()).redirectError(ProcessBuilder.Redirect.INHERIT).start();
    shell.getOutputStream().close();
    String all = new String(shell.getInputStream().readAllBytes());
    due("the end of " + commands, shell.waitFor(), 0);
    return all.lines().toList();
  }

  private static void example(List<String> readme, Path place) throws Exception {
    List<String> lines = block(readme, "java");
    Files.write(place.resolve("Example.java"), lines);
    List<String> due = new ArrayList<>();
    for (String line : lines) {
      Matcher printed = PRINTED.matcher(line);
      if (printed.matches()) {
        due.add(printed.group(1));
      }
      due("a print without its answer: " + line, printed.matches(), line.contains("println"));
    }
    due("some answers", due.size() > 5, true);
    due("the example", output(place, block(readme, "sh")), due);
  }

  private static void rows(List<String> readme, Path place) throws Exception {
    List<String> program = new ArrayList<>();
    List<String> due = new ArrayList<>();
    program.add("class Rows { public static void main(String[] args) {");
    for (String line : readme) {
      Matcher row = ROW.matcher(line);
      if (row.matches()) {
        program.add("try { System.out.println(\"" + row.group(1) + " \" + new Setsieve()."
            + row.group(1) + "); } catch (RuntimeException e) { System.out.println(\""
            + row.group(1) + " \" + e.getClass().getSimpleName()); }");
        due.add(row.group(1) + " " + row.group(2));
      }
      boolean isRow = line.startsWith("|") && !line.startsWith("| call") && !line.startsWith("| -");
      due("a row that is not asked: " + line, row.matches(), isRow);
    }
    program.add("} }");
    due("some rows", due.size() > 5, true);
    Files.write(place.resolve("Rows.java"), program);
    due("the table", output(place, List.of(
        "javac -d rows " + CLASS + " Rows.java", "java -cp rows Rows")), due);
  }

  private static void tests(List<String> readme) throws IOException {
    String all = String.join("\n", readme);
    try (Stream<Path> files = Files.list(TESTS)) {
      for (Path file : files.toList()) {
        String name = file.getFileName().toString().replace(".java", "");
        due("names " + name, all.contains("`" + name + "`"), true);
      }
    }
    due("names .ci/run", readme.contains(".ci/run"), true);
  }

  private static void remove(Path place) throws IOException {
    try (Stream<Path> inside = Files.walk(place)) {
      for (Path path : inside.sorted(Comparator.reverseOrder()).toList()) {
        Files.delete(path);
      }
    }
  }

  public static void main(String[] args) throws Exception {
    List<String> readme = Files.readAllLines(Path.of("README.md"));
    Path place = Files.createTempDirectory("readme");
    try {
      Files.createDirectories(place.resolve(CLASS).getParent());
      Files.copy(CLASS, place.resolve(CLASS));
      example(readme, place);
      rows(readme, place);
    } finally {
      remove(place);
    }
    tests(readme);
    System.out.println(wrong == 0 ? "README.md is so" : wrong + " places of README.md are not so");
    if (wrong != 0) {
      System.exit(1);
    }
  }
}
