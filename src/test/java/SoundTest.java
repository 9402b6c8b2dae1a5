import java.lang.reflect.Field;

/**
 * No run of calls leads to an object that is not sound, so here its state is spoilt from outside,
 * to see that isSound() does ask. How the state is held is free: of a class that holds it by other
 * names this test asks nothing and says so. Whoever renames a field mends the names here.
 */
public final class SoundTest {
  private static int wrong = 0;

  private static Setsieve made() {
    Setsieve x = new Setsieve();
    x.stretch(0, 3, 6);
    x.stretch(1, 4, 9);
    x.sieve(30);
    x.strike();
    x.strike();
    x.walk(0);
    x.goOn();
    x.goOn();
    return x;
  }

  private static Object in(Object owner, String name) throws Exception {
    return field(owner, name).get(owner);
  }

  private static Field field(Object owner, String name) throws Exception {
    Field field = owner.getClass().getDeclaredField(name);
    field.setAccessible(true);
    return field;
  }

  private static void spoilInt(String part, String name, int value, boolean sound)
      throws Exception {
    Setsieve x = made();
    Object owner = in(x, part);
    field(owner, name).setInt(owner, value);
    due(x, part + "." + name + " = " + value, sound);
  }

  private static void spoilRow(String part, String name, long low, boolean sound)
      throws Exception {
    Setsieve x = made();
    Object row = in(in(x, part), name);
    field(row, "low").setLong(row, low);
    due(x, part + "." + name + ".low = " + low, sound);
  }

  private static void due(Setsieve x, String what, boolean sound) {
    long before = x.digest();
    if (x.isSound() != sound || x.digest() != before) {
      wrong++;
      System.out.println(what + ": isSound() is not " + sound + ", or changed something");
    }
  }

  public static void main(String[] args) throws Exception {
    due(made(), "nothing", true);
    String end = "isSound() asks";
    try {
      spoil();
    } catch (NoSuchFieldException e) {
      end = "NOT ASKED whether isSound() asks, since the class has no field " + e.getMessage();
    }
    System.out.println(wrong == 0 ? end : wrong + " answers are not as due");
    if (wrong != 0) {
      System.exit(1);
    }
  }

  private static void spoil() throws Exception {
    spoilInt("numbersLeft", "last", 3, true);
    spoilInt("numbersLeft", "last", 1, false);
    spoilInt("numbersLeft", "last", 5, false);
    spoilInt("numbersLeft", "bound", 29, true);
    spoilInt("numbersLeft", "bound", 28, false);
    spoilInt("numbersLeft", "bound", 31, false);
    spoilRow("numbersLeft", "remaining", 0, false);
    spoilRow("numbersLeft", "remaining", -1, false);
    spoilInt("parts", "gone", 2, true);
    spoilInt("parts", "gone", 1, false);
    spoilInt("parts", "gone", 3, false);
    spoilRow("parts", "current", 24, true);
    spoilRow("parts", "current", 8, false);
    spoilRow("parts", "current", 25, false);
    spoilRow("parts", "whole", 16, false);
  }
}
