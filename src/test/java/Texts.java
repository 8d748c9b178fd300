/** Rules made at random, the same ones for the same seed. */
final class Texts {
  private static final String[] WHATS = "amount partner tier day weekday balance nth members owed".split(" ");
  private static final String[] COMPARISONS = "< > = <= >=".split(" ");
  private static final String[] OPERATORS = "+ - * /".split(" ");
  private long seed;

  Texts(long seed) {
    this.seed = seed * 7919 + 17;
    below(2);
  }

  int below(int bound) {
    seed = seed * 6364136223846793005L + 1442695040888963407L;
    return (int) ((seed >>> 33) % bound);
  }

  String text(int mostRules) {
    StringBuilder text = new StringBuilder();
    int rules = below(12) == 0 ? 10 + below(6) : below(mostRules + 1);
    for (int i = 0; i < rules; i++) {
      text.append(rule(below(25) == 0 ? "r0" : "r" + i, rules > 6 ? 1 : 3)).append(below(2) == 0 ? "\n" : "");
    }
    return text.toString();
  }

  private String rule(String name, int size) {
    String test = below(2) == 0 ? "" : " when " + test(size);
    String most = below(3) == 0 ? " most " + sum(size) : "";
    String each = below(3) == 0 ? " each " + below(below(2) == 0 ? 100 : 3000) : "";
    return "rule " + name + test + " earn " + sum(size) + most + each + (below(6) == 0 ? " stop" : "") + ";";
  }

  private String test(int size) {
    switch (size <= 0 ? 3 : below(8)) {
      case 0: return test(size - 1) + " and " + test(size - 1);
      case 1: return test(size - 1) + " or " + test(size - 1);
      case 2: return "not " + test(size - 1);
      case 4: return "[" + test(size - 1) + "]";
      default: return sum(size - 1) + COMPARISONS[below(5)] + sum(size - 1);
    }
  }

  private String sum(int size) {
    switch (size <= 0 ? 7 : below(8)) {
      case 0: return "(" + sum(size - 1) + ")";
      case 1: return "-" + sum(size - 1);
      case 2: return (below(2) == 0 ? "min(" : "max(") + sum(size - 1) + "," + sum(size - 1) + ")";
      case 3: case 4: case 5: return sum(size - 1) + " " + OPERATORS[below(4)] + " " + sum(size - 1);
      default: return below(2) == 0 ? WHATS[below(9)] : number();
    }
  }

  private String number() {
    switch (below(12)) {
      case 0: return "0";
      case 1: return "999999";
      case 2: return "" + below(1000000);
      default: return "" + below(60);
    }
  }
}
