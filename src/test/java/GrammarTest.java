/** Texts made at random, most of them with a fault, read by teach and by the grammar itself. */
public final class GrammarTest {
  private static final String[] TOKENS = ("rule a b when earn most each stop and or not min max amount partner tier day weekday"
      + " balance nth members owed ( ) [ ] ; , + - * / < > = <= >= 0 7 123456 1234567 abcdefghij abcdefghijk a1 % A").split(" ");

  public static void main(String[] args) {
    int[] errors = new int[4];
    for (int i = 0; i < 6000; i++) {
      Texts texts = new Texts(i);
      String text = texts.text(i % 3 == 0 ? 1 : 3);
      if (i % 4 != 0) {
        text = spoiled(texts, text);
      }
      errors[compare(text)]++;
    }
    for (int i = 0; i < errors.length; i++) {
      Check.due("texts with the error " + i + " are enough", errors[i] > 20, true);
    }
    Check.end();
  }

  private static String spoiled(Texts texts, String text) {
    int at = texts.below(text.length() + 1);
    int to = Math.min(text.length(), at + texts.below(6));
    switch (texts.below(4)) {
      case 0: return text.substring(0, at);
      case 1: return text.substring(0, at) + text.substring(to);
      case 2: return text.substring(0, at) + " " + TOKENS[texts.below(TOKENS.length)] + " " + text.substring(at);
      default: return text.substring(0, at) + TOKENS[texts.below(TOKENS.length)] + text.substring(to);
    }
  }

  private static int compare(String whole) {
    String text = whole.length() > 2000 ? whole.substring(0, 2000) : whole;
    PointHouse house = new PointHouse();
    int error = Check.teach(house, text);
    int[] want = Model.errorOf(text);
    Check.due("teach of " + text, error, want[0]);
    Check.due("errorAt of " + text, house.errorAt(), want[1]);
    return want[0];
  }
}
