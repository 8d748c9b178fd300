import java.util.Arrays;

/** Runs of calls made at random, each answered by the class and by the plain model of the document. */
public final class RandomRunsTest {
  private static final int[] EXTREMES = {Integer.MIN_VALUE, Integer.MAX_VALUE, -2, -1, 0, 1, 6, 16, 100, 10001};

  /** An object is used for at most so many calls. */
  private static final int CALLS = 512;

  private final Texts chance;
  private final PointHouse house = new PointHouse();
  private final Model model = new Model();
  private final StringBuilder told = new StringBuilder();
  private int made;
  private static final int[] answersSeen = new int[29];

  private RandomRunsTest(int seed) {
    chance = new Texts(seed + 100000L);
  }

  public static void main(String[] args) {
    for (int i = 0; i < 600; i++) {
      new RandomRunsTest(i).run(i % 10 == 0 ? CALLS : 260);
    }
    for (int i = 0; i < 29; i++) {
      Check.due("answers of call " + i + " are enough", answersSeen[i] > 100, true);
    }
    Check.end();
  }

  private void run(int calls) {
    settle();
    for (int i = 0; made < calls - 1; i++) {
      step();
      if (i % 16 == 0) {
        both(28, new int[0]);
      }
    }
    both(28, new int[0]);
  }

  private void settle() {
    teach(chance.below(4) == 0 ? "rule a earn amount; rule b when nth=3 earn 50 each 60;" : chance.text(3));
    for (int i = 0; i < 3; i++) {
      both(5, new int[] {80 + chance.below(60), chance.below(2) == 0 ? 1 + chance.below(40) : 1 + chance.below(400)});
      both(6, new int[0]);
      both(7, new int[] {chance.below(3) - 1});
      both(7, new int[] {chance.below(2) - 1});
      both(9, new int[] {1 + chance.below(chance.below(2) == 0 ? 100 : 3000), chance.below(6), chance.below(2)});
    }
  }

  private void teach(String text) {
    for (int i = 0; i + 20 <= text.length() && i < 1980; i += 20) {
      both(1, words(text.substring(i, i + 20)));
    }
    String rest = text.substring(Math.min(text.length(), 1980) / 20 * 20);
    if (rest.length() > 0 && rest.length() < 20) {
      both(1, words((rest + "                    ").substring(0, 20)));
      both(2, new int[] {model.count(11) - 20 + rest.length()});
    }
    both(3, new int[0]);
    both(4, new int[0]);
  }

  private static int[] words(String text) {
    int[] row = new int[5];
    for (int i = 0; i < 20; i++) {
      row[i / 4] = row[i / 4] << 8 | text.charAt(i) & 255;
    }
    return row;
  }

  private int member() {
    return chance.below(model.count(4) + (chance.below(30) == 0 ? 2 : 0));
  }

  private int partner() {
    return chance.below(3);
  }

  private int reward() {
    return chance.below(3 + chance.below(2));
  }

  private int amount() {
    return chance.below(30) == 0 ? 10001 : 1 + chance.below(chance.below(2) == 0 ? 200 : 10000);
  }

  private int household() {
    return chance.below(5) - 1;
  }

  private void step() {
    int call = chance.below(60);
    if (chance.below(14) == 0) {
      wild(chance.below(29));
    } else if (call < 16) {
      both(12, new int[] {member(), partner(), amount()});
    } else if (call < 23) {
      both(13, new int[] {member(), reward()});
    } else if (call < 29) {
      both(14, new int[] {member(), member(), 1 + chance.below(chance.below(2) == 0 ? 15 : 400)});
    } else if (call < 35) {
      both(15, new int[] {chance.below(2) == 0 ? model.count(6) - 1 - chance.below(4) : chance.below(1 + model.count(6))});
    } else if (call < 43) {
      both(18, new int[] {1 + chance.below(chance.below(4) == 0 ? 90 : 12)});
    } else if (call == 43) {
      teach(chance.below(8) == 0 ? "rule x earn " : chance.text(3));
    } else {
      ask(call);
    }
  }

  private void ask(int call) {
    switch (call) {
      case 44: both(7, new int[] {household()}); break;
      case 45: both(8, new int[] {member(), household()}); break;
      case 46: both(9, new int[] {1 + chance.below(20000), chance.below(100), chance.below(4)}); break;
      case 47: both(10, new int[] {reward(), chance.below(4)}); break;
      case 48: both(11, new int[] {member(), chance.below(9)}); break;
      case 49: both(16, new int[] {chance.below(1 + model.count(6)), chance.below(7)}); break;
      case 50: both(17, new int[] {chance.below(1 + model.count(7)), chance.below(5)}); break;
      case 51: both(19, new int[] {chance.below(13)}); break;
      case 52: both(20, new int[] {member(), partner(), amount()}); break;
      case 53: both(21, new int[] {member(), chance.below(401)}); break;
      case 54: both(22, new int[] {member()}); break;
      case 55: both(23, new int[] {member()}); break;
      case 56: both(24, new int[] {member(), reward(), partner(), amount(), 1 + chance.below(60)}); break;
      case 57: both(25, new int[] {member()}); break;
      case 58: both(26, new int[] {chance.below(1 + model.count(12))}); break;
      default: both(27, new int[0]); break;
    }
  }

  private void wild(int call) {
    int[] row = new int[5];
    for (int i = 0; i < 5; i++) {
      row[i] = chance.below(3) == 0 ? EXTREMES[chance.below(EXTREMES.length)] : chance.below(5);
    }
    both(call, row);
  }

  private void both(int call, int[] with) {
    if (made == CALLS) {
      return;
    }
    made++;
    String row = call + " " + Arrays.toString(with);
    told.append(row).append("; ");
    Object got = Check.answerOf(() -> ofHouse(call, with));
    Object want = Check.answerOf(() -> ofModel(call, with));
    answersSeen[call] += want instanceof String ? 0 : 1;
    Check.due(got.equals(want) ? "" : "the last of " + told, got, want);
  }

  private Object ofHouse(int call, int[] a) {
    PointHouse x = house;
    switch (call) {
      case 1: return x.feed(a[0], a[1], a[2], a[3], a[4]);
      case 2: return x.trim(a[0]);
      case 3: return x.teach();
      case 4: return x.errorAt();
      case 5: return x.addPartner(a[0], a[1]);
      case 6: return x.addHousehold();
      case 7: return x.join(a[0]);
      case 8: return x.move(a[0], a[1]);
      case 9: return x.addReward(a[0], a[1], a[2]);
      case 10: return x.reward(a[0], a[1]);
      case 11: return x.member(a[0], a[1]);
      case 12: return x.buy(a[0], a[1], a[2]);
      case 13: return x.take(a[0], a[1]);
      case 14: return x.give(a[0], a[1], a[2]);
      case 15: return x.takeBack(a[0]);
      case 16: return x.transaction(a[0], a[1]);
      case 17: return x.lot(a[0], a[1]);
      case 18: return x.pass(a[0]);
      case 19: return x.count(a[0]);
      case 20: return x.would(a[0], a[1], a[2]);
      case 21: return x.expiring(a[0], a[1]);
      case 22: return x.affords(a[0]);
      case 23: return x.spend(a[0]);
      case 24: return x.when(a[0], a[1], a[2], a[3], a[4]);
      case 25: return x.state(a[0]);
      case 26: return x.byteAt(a[0]);
      case 27: return x.breakage();
      default: return x.digest();
    }
  }

  private Object ofModel(int call, int[] a) {
    Model x = model;
    switch (call) {
      case 1: return x.feed(a);
      case 2: return x.trim(a[0]);
      case 3: return x.teach();
      case 4: return x.errorAt();
      case 5: return x.addPartner(a[0], a[1]);
      case 6: return x.addHousehold();
      case 7: return x.join(a[0]);
      case 8: return x.move(a[0], a[1]);
      case 9: return x.addReward(a[0], a[1], a[2]);
      case 10: return x.reward(a[0], a[1]);
      case 11: return x.member(a[0], a[1]);
      case 12: return x.buy(a[0], a[1], a[2]);
      case 13: return x.take(a[0], a[1]);
      case 14: return x.give(a[0], a[1], a[2]);
      case 15: return x.takeBack(a[0]);
      case 16: return x.transaction(a[0], a[1]);
      case 17: return x.lot(a[0], a[1]);
      case 18: return x.pass(a[0]);
      case 19: return x.count(a[0]);
      case 20: return x.would(a[0], a[1], a[2]);
      case 21: return x.expiring(a[0], a[1]);
      case 22: return x.affords(a[0]);
      case 23: return x.spend(a[0]);
      case 24: return x.when(a[0], a[1], a[2], a[3], a[4]);
      case 25: return x.state(a[0]);
      case 26: return x.byteAt(a[0]);
      case 27: return x.breakage();
      default: return x.digest();
    }
  }
}
