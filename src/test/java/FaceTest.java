import java.lang.reflect.Method;
import java.lang.reflect.Modifier;
import java.util.Set;
import java.util.TreeSet;

/** The face has what the document tells and no more, and no call throws, whatever it is given. */
final class FaceTest {
  private static final String[] METHODS = {"letter 1", "house 0", "piece 2", "carry 2", "stands 2", "polish 1", "size 2", "wide 2",
      "heirs 1", "years 1", "blame 1", "worst 0", "crowded 0", "placing 3", "innocent 0", "shares 1", "dealt 1", "envy 0", "choice 1",
      "sell 1", "burn 0", "heavier 0", "later 1", "gone 1", "whose 1", "ask 1", "wider 3", "bigger 2", "guest 1", "row 1", "fits 1",
      "judge 0", "lots 2", "image 0", "on 0", "count 1"};
  private static final int[] NUMBERS = {Integer.MIN_VALUE, Integer.MIN_VALUE + 1, -1000, -9, -2, -1, 0, 1, 2, 5, 6, 7, 9, 10, 11, 63, 64,
      99, 200, 255, 999, Integer.MAX_VALUE - 1, Integer.MAX_VALUE};

  public static void main(String[] args) {
    face();
    anyNumbers("");
    anyNumbers("ip1500;");
    anyNumbers("r020;is2399;iw1200;iv3400;m00;m10;ic9999;it4100;");
    anyNumbers("r020;is2399;iw1200;iv3400;m00;m10;ic9999;it4100;ip1000;iw9900;");
    Due.end("FaceTest");
  }

  private static void face() {
    Set<String> got = new TreeSet<>();
    Set<String> names = new TreeSet<>();
    for (String method : METHODS) {
      names.add(method.substring(0, method.indexOf(' ')));
    }
    for (Method method : BlameIsFurniture.class.getDeclaredMethods()) {
      if (!Modifier.isPrivate(method.getModifiers())) {
        got.add(method.getName() + " " + method.getParameterCount());
        Due.due(method.getName() + " is public and answers an int",
            Modifier.isPublic(method.getModifiers()) && method.getReturnType() == int.class ? 1 : 0, 1);
      }
    }
    int isPublicAndFinal = Modifier.PUBLIC | Modifier.FINAL;
    Due.due("the class is public and final", BlameIsFurniture.class.getModifiers() & isPublicAndFinal, isPublicAndFinal);
    Due.due("one constructor", BlameIsFurniture.class.getDeclaredConstructors().length, 1);
    Due.due("a public one of no parameters", BlameIsFurniture.class.getConstructors()[0].getParameterCount(), 0);
    Due.due("the methods are those of the document", got.equals(new TreeSet<>(Set.of(METHODS))) ? 1 : 0, 1);
    for (Class<?> inside : BlameIsFurniture.class.getDeclaredClasses()) {
      Due.due(inside + " is static", Modifier.isStatic(inside.getModifiers()) ? 1 : 0, 1);
      for (Method method : inside.getDeclaredMethods()) {
        Due.due(inside + "." + method.getName() + " bears no public name", names.contains(method.getName()) ? 1 : 0, 0);
      }
    }
    for (java.lang.reflect.Field field : BlameIsFurniture.class.getDeclaredFields()) {
      Due.due(field + " is private", Modifier.isPrivate(field.getModifiers()) ? 1 : 0, 1);
    }
  }

  private static void anyNumbers(String text) {
    for (String method : METHODS) {
      String name = method.substring(0, method.indexOf(' '));
      int parameters = method.charAt(method.length() - 1) - '0';
      BlameIsFurniture x = new BlameIsFurniture();
      if (!text.isEmpty()) {
        Due.tell(x, text);
      }
      for (int a : NUMBERS) {
        for (int b : NUMBERS) {
          if (b == NUMBERS[0] || parameters > 1) {
            thirdNumbers(x, name, parameters, a, b);
          }
        }
      }
    }
  }

  private static void thirdNumbers(BlameIsFurniture x, String name, int parameters, int a, int b) {
    for (int c : NUMBERS) {
      if (c == NUMBERS[0] || parameters > 2) {
        try {
          Calls.call(x, name, a, b, c);
        } catch (RuntimeException thrown) {
          Due.due(name + "(" + a + ", " + b + ", " + c + ") threw " + thrown + ":", 1, 0);
        }
      }
    }
  }
}
