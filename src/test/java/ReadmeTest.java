import java.io.IOException;
import java.nio.file.Files;
import java.nio.file.Path;
import java.util.regex.Matcher;
import java.util.regex.Pattern;

/** README.md shows calls with their answers: they are made in its order, and answer what it says. */
final class ReadmeTest {
  private static final Pattern HOUSE = Pattern.compile("String text = \"([a-z0-9;]+)\";.*");
  private static final Pattern CALL = Pattern.compile("x\\.(\\w+)\\(([-0-9, ]*)\\);\\s*// (-?\\d+)(:.*)?");
  private static final int LEAST_CALLS = 20;

  private static int calls = 0;

  public static void main(String[] args) throws IOException {
    BlameIsFurniture x = new BlameIsFurniture();
    for (String line : Files.readAllLines(Path.of("README.md"))) {
      tell(x, HOUSE.matcher(line.strip()));
      call(x, CALL.matcher(line.strip()));
    }
    Due.due("README.md shows calls", calls >= LEAST_CALLS ? 1 : 0, 1);
    Due.end("ReadmeTest");
  }

  private static void tell(BlameIsFurniture x, Matcher house) {
    if (house.matches()) {
      for (int i = 0; i < house.group(1).length(); i++) {
        x.letter(house.group(1).charAt(i));
      }
    }
  }

  private static void call(BlameIsFurniture x, Matcher call) {
    if (call.matches()) {
      int[] numbers = new int[3];
      String[] told = call.group(2).isEmpty() ? new String[0] : call.group(2).split(", ");
      for (int i = 0; i < told.length; i++) {
        numbers[i] = Integer.parseInt(told[i]);
      }
      calls++;
      int want = Integer.parseInt(call.group(3));
      Due.due("README.md: " + call.group(), Calls.call(x, call.group(1), numbers[0], numbers[1], numbers[2]), want);
    }
  }
}
