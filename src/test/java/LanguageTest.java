import java.nio.file.Files;
import java.nio.file.Path;
import java.util.List;
import java.util.regex.Matcher;
import java.util.regex.Pattern;

/** What of ../shared/LANGUAGE.md can be seen in the text of the program. */
final class LanguageTest {
  private static final Path PROGRAM = Path.of("src/main/java/BlameIsFurniture.java");
  private static final String[] RULED_OUT = {"\\b(throw|throws|try|catch|synchronized|assert|package|native|volatile|transient)\\b",
      "->", "::", "\\bvar\\b", "\\byield\\b", "\\b(equals|hashCode|toString)\\s*\\(", "\\bSystem\\.(?!arraycopy\\()", "Exact\\b",
      "\\b(Integer|Long|Math)\\.(?![a-z]\\w*\\()", "\\bArrays\\.(?!(copyOf|copyOfRange|fill)\\()", "\\bList\\.(?!of\\()",
      "\\b(Character|Boolean|Byte|Short|Double|Float|Objects|Collections)\\b",
      "\\bnew\\s+\\w+\\s*\\([^()]*\\)\\s*\\{", "\"\\s*\\+|\\+\\s*\"", "\\b(HashMap|Map|Set|Random|Thread|Object|Class|Stream|Optional)\\b",
      "^import (?!java\\.util\\.(Arrays|ArrayList|List|Iterator);)", "[^\\x00-\\x7f]", "^\\s*static\\s*\\{", "\\bwhile\\s*\\(true\\)"};

  public static void main(String[] args) throws java.io.IOException {
    List<String> lines = Files.readAllLines(PROGRAM);
    for (int i = 0; i < lines.size(); i++) {
      String code = lines.get(i).replaceAll("/\\*\\*.*|//.*", "");
      for (String ruledOut : RULED_OUT) {
        Due.due("line " + (i + 1) + " has " + ruledOut + ":", Pattern.compile(ruledOut).matcher(code).find() ? 1 : 0, 0);
      }
    }
    methodsAreShort(lines);
    staticsAreFinal(lines);
    Due.end("LanguageTest");
  }

  private static void methodsAreShort(List<String> lines) {
    Pattern head = Pattern.compile("^( +)(public|private)[\\w\\[\\] ]* \\w+\\((.*)\\) \\{$");
    for (int i = 0; i < lines.size(); i++) {
      Matcher method = head.matcher(lines.get(i));
      if (method.matches()) {
        int end = i;
        while (!lines.get(end).equals(method.group(1) + "}")) {
          end++;
        }
        Due.due("line " + (i + 1) + ": a method of at most 60 lines", end - i < 60 ? 1 : 0, 1);
        Due.due("line " + (i + 1) + ": at most seven parameters", method.group(3).split(",").length <= 7 ? 1 : 0, 1);
      }
    }
  }

  private static void staticsAreFinal(List<String> lines) {
    for (int i = 0; i < lines.size(); i++) {
      boolean isField = lines.get(i).matches("\\s*(public |private )?static .*[;=].*") && !lines.get(i).contains("(");
      Due.due("line " + (i + 1) + ": a static field is final", isField && !lines.get(i).contains(" final ") ? 1 : 0, 0);
    }
  }
}
