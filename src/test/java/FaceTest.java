import java.lang.reflect.Constructor;
import java.lang.reflect.Executable;
import java.lang.reflect.Field;
import java.lang.reflect.Method;
import java.lang.reflect.Modifier;
import java.util.Set;
import java.util.TreeSet;

/** The public face of the document, and what LANGUAGE.md says of the members of classes (its rules 1, 2, 5 and 11). */
public final class FaceTest {
  private static final String[] FACE = {
    "public PointHouse()",
    "public int feed(int, int, int, int, int) throws IllegalStateException",
    "public int trim(int) throws IllegalArgumentException",
    "public int teach()",
    "public int errorAt()",
    "public int addPartner(int, int) throws IllegalArgumentException, IllegalStateException",
    "public int addHousehold() throws IllegalStateException",
    "public int join(int) throws IndexOutOfBoundsException, IllegalStateException",
    "public int move(int, int) throws IndexOutOfBoundsException",
    "public int addReward(int, int, int) throws IllegalArgumentException, IllegalStateException",
    "public int reward(int, int) throws IndexOutOfBoundsException",
    "public int member(int, int) throws IndexOutOfBoundsException",
    "public int buy(int, int, int) throws IndexOutOfBoundsException, IllegalArgumentException, IllegalStateException",
    "public int take(int, int) throws IndexOutOfBoundsException, IllegalStateException",
    "public int give(int, int, int) throws IndexOutOfBoundsException, IllegalArgumentException, IllegalStateException",
    "public int takeBack(int) throws IndexOutOfBoundsException, IllegalStateException",
    "public int transaction(int, int) throws IndexOutOfBoundsException",
    "public int lot(int, int) throws IndexOutOfBoundsException",
    "public int pass(int) throws IllegalArgumentException",
    "public int count(int) throws IndexOutOfBoundsException",
    "public int would(int, int, int) throws IndexOutOfBoundsException, IllegalArgumentException",
    "public int expiring(int, int) throws IndexOutOfBoundsException, IllegalArgumentException",
    "public int affords(int) throws IndexOutOfBoundsException",
    "public int spend(int) throws IndexOutOfBoundsException",
    "public int when(int, int, int, int, int) throws IndexOutOfBoundsException, IllegalArgumentException",
    "public int state(int) throws IndexOutOfBoundsException",
    "public int byteAt(int) throws IndexOutOfBoundsException",
    "public double breakage()",
    "public long digest()",
  };

  private static final Set<String> FIELDS_OF_STATIC_ARRAYS = Set.of("int[]", "long[]", "char[]", "byte[]");
  private static final Set<String> CONSTANTS = Set.of("int", "long", "boolean", "char", "String");

  public static void main(String[] args) {
    publicFace();
    nothingElseIsSeen();
    classesInside();
    Check.end();
  }

  private static String names(Class<?>[] types) {
    StringBuilder row = new StringBuilder();
    for (Class<?> type : types) {
      row.append(row.length() == 0 ? "" : ", ").append(type.getSimpleName());
    }
    return row.toString();
  }

  private static String told(Executable one, String what) {
    String thrown = names(one.getExceptionTypes());
    return Modifier.toString(one.getModifiers()) + " " + what + "(" + names(one.getParameterTypes()) + ")"
        + (thrown.isEmpty() ? "" : " throws " + thrown);
  }

  private static void publicFace() {
    Check.sentence("The public face");
    Set<String> want = new TreeSet<>(Set.of(FACE));
    Set<String> got = new TreeSet<>();
    for (Constructor<?> one : PointHouse.class.getDeclaredConstructors()) {
      got.add(told(one, "PointHouse"));
    }
    for (Method one : PointHouse.class.getDeclaredMethods()) {
      if (!Modifier.isPrivate(one.getModifiers())) {
        got.add(told(one, one.getReturnType().getSimpleName() + " " + one.getName()));
      }
    }
    Check.due("the face", String.join("\n", got), String.join("\n", want));
    Check.due("the class", Modifier.toString(PointHouse.class.getModifiers()), "public final");
    Check.due("its package", PointHouse.class.getPackageName(), "");
    Check.due("what it extends", PointHouse.class.getSuperclass(), Object.class);
    Check.due("what it implements", PointHouse.class.getInterfaces().length, 0);
  }

  private static void nothingElseIsSeen() {
    Check.sentence("no other public, protected or package-visible member; no private method bears the name of a public one");
    for (Field field : PointHouse.class.getDeclaredFields()) {
      Check.due(field + " is private", Modifier.isPrivate(field.getModifiers()), true);
    }
    Set<String> names = new TreeSet<>();
    for (String row : FACE) {
      names.add(row.replaceAll("\\(.*", "").replaceAll(".* ", ""));
    }
    for (Method one : PointHouse.class.getDeclaredMethods()) {
      boolean isPrivate = Modifier.isPrivate(one.getModifiers());
      Check.due(one + " has a name of its own", isPrivate && names.contains(one.getName()), false);
    }
  }

  private static void classesInside() {
    Class<?>[] inside = PointHouse.class.getDeclaredClasses();
    Check.sentence("the file has at most some twelve classes, and a class some twenty fields beside its constants");
    Check.due("at most twelve classes", inside.length + 1 <= 12, true);
    look(PointHouse.class);
    for (Class<?> one : inside) {
      int modifiers = one.getModifiers();
      Check.due(one + " is static", Modifier.isStatic(modifiers), true);
      Check.due(one + " is seen outside", Modifier.isPublic(modifiers) || Modifier.isProtected(modifiers), false);
      look(one);
    }
  }

  private static void look(Class<?> one) {
    int fields = 0;
    for (Field field : one.getDeclaredFields()) {
      fields += Modifier.isStatic(field.getModifiers()) ? 0 : 1;
      Check.due(field + " may be static", !Modifier.isStatic(field.getModifiers()) || isConstant(field), true);
    }
    Check.due(one + " has at most twenty fields", fields <= 20, true);
    for (Method method : one.getDeclaredMethods()) {
      Check.due(method + " has at most seven parameters", method.getParameterCount() <= 7, true);
      // What the compiler makes stands for a lambda, or for a reference to a method.
      Check.due(method + " is made by the compiler", method.isSynthetic(), false);
    }
  }

  private static boolean isConstant(Field field) {
    String type = field.getType().getSimpleName();
    return Modifier.isFinal(field.getModifiers()) && (CONSTANTS.contains(type) || FIELDS_OF_STATIC_ARRAYS.contains(type));
  }
}
