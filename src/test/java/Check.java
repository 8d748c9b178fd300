import java.nio.charset.StandardCharsets;
import java.util.Arrays;

/** What all tests use: it prints what is not as due, and counts it. */
final class Check {
  interface Call {
    Object answer();
  }

  private static int wrong = 0;
  private static String sentence = "";

  private Check() {
  }

  /** The words of the document that the next answers are about; they are printed with a wrong one. */
  static void sentence(String words) {
    sentence = words;
  }

  static void due(String told, Object got, Object want) {
    if (!got.equals(want)) {
      wrong++;
      String words = sentence.isEmpty() ? "" : "[" + sentence + "] ";
      System.out.println(words + told + " answered " + got + ", due is " + want);
    }
  }

  /** A throw is told as throws. and its exact class, as an exception of the machine is none of ours. */
  static Object answerOf(Call call) {
    try {
      return call.answer();
    } catch (RuntimeException e) {
      return "throws." + e.getClass().getSimpleName();
    }
  }

  static void noIndex(String told, Call call) {
    due(told, answerOf(call), "throws.IndexOutOfBoundsException");
  }

  static void noArgument(String told, Call call) {
    due(told, answerOf(call), "throws.IllegalArgumentException");
  }

  static void noState(String told, Call call) {
    due(told, answerOf(call), "throws.IllegalStateException");
  }

  /** Feeds a text whose signs are bytes, and trims what feed fills up. */
  static void feedText(PointHouse house, String text) {
    int before = house.count(11);
    byte[] bytes = text.getBytes(StandardCharsets.ISO_8859_1);
    int[] numbers = new int[(bytes.length + 19) / 20 * 5];
    for (int i = 0; i < bytes.length; i++) {
      numbers[i / 4] |= (bytes[i] & 255) << 24 - 8 * (i % 4);
    }
    for (int i = 0; i < numbers.length; i += 5) {
      house.feed(numbers[i], numbers[i + 1], numbers[i + 2], numbers[i + 3], numbers[i + 4]);
    }
    house.trim(before + bytes.length);
  }

  static int teach(PointHouse house, String text) {
    feedText(house, text);
    return house.teach();
  }

  /** Teaches a new house this text, which has this error at this position: 0 and -1 if it has none. */
  static void reads(String text, int error, int position) {
    PointHouse house = new PointHouse();
    due("teach of " + text, teach(house, text), error);
    due("errorAt of " + text, house.errorAt(), position);
    due("bytes of the tape behind " + text, house.count(11), 0);
  }

  /** A house with these rules, a partner of factor 100 and life 365, and members without a household. */
  static PointHouse houseWith(String text, int members) {
    PointHouse house = new PointHouse();
    due("teach " + text, teach(house, text), 0);
    house.addPartner(100, 365);
    for (int i = 0; i < members; i++) {
      house.join(-1);
    }
    return house;
  }

  static String paper(PointHouse house) {
    StringBuilder text = new StringBuilder();
    for (int i = 0; i < house.count(12); i++) {
      text.append((char) house.byteAt(i));
    }
    return text.toString();
  }

  static String member(PointHouse house, int member) {
    int[] facts = new int[9];
    for (int i = 0; i < facts.length; i++) {
      facts[i] = house.member(member, i);
    }
    return Arrays.toString(facts);
  }

  static String reward(PointHouse house, int reward) {
    int[] facts = new int[4];
    for (int i = 0; i < facts.length; i++) {
      facts[i] = house.reward(reward, i);
    }
    return Arrays.toString(facts);
  }

  static String transaction(PointHouse house, int transaction) {
    int[] facts = new int[7];
    for (int i = 0; i < facts.length; i++) {
      facts[i] = house.transaction(transaction, i);
    }
    return Arrays.toString(facts);
  }

  static String lot(PointHouse house, int lot) {
    int[] facts = new int[5];
    for (int i = 0; i < facts.length; i++) {
      facts[i] = house.lot(lot, i);
    }
    return Arrays.toString(facts);
  }

  static String counts(PointHouse house) {
    int[] facts = new int[13];
    for (int i = 0; i < facts.length; i++) {
      facts[i] = house.count(i);
    }
    return Arrays.toString(facts);
  }

  static void passAll(PointHouse house, int days) {
    for (int left = days; left > 0; left -= 200) {
      house.pass(Math.min(left, 200));
    }
  }

  static void end() {
    System.exit(wrong == 0 ? 0 : 1);
  }
}
