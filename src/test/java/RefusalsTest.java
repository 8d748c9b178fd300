/**
 * Each call with the edges of all its arguments, in a new house, in one where a little is, and in one where all is at its
 * limit: what is refused, by the exception that is named first, and that it has changed nothing.
 */
public final class RefusalsTest {
  private static final int MIN = Integer.MIN_VALUE;
  private static final int MAX = Integer.MAX_VALUE;
  private static final String GOOD = "";
  private static final String INDEX = "throws.IndexOutOfBoundsException";
  private static final String ARGUMENT = "throws.IllegalArgumentException";
  private static final String STATE = "throws.IllegalStateException";
  /** A house is used for at most 512 calls, of which making it and probing it need less than 300. */
  private static final int CALLS = 200;

  private interface Call {
    int of(PointHouse house, int[] a);
  }

  private interface Due {
    String of(int[] a);
  }

  private final int state;
  private final int[] n = new int[13];
  private PointHouse touched;
  private int calls;
  private String probe;

  private RefusalsTest(int state) {
    this.state = state;
    PointHouse house = make();
    for (int i = 0; i < 13; i++) {
      n[i] = house.count(i);
    }
    probe = probe(make());
    touched = make();
  }

  public static void main(String[] args) {
    for (int state = 0; state < 3; state++) {
      RefusalsTest test = new RefusalsTest(state);
      test.told();
      test.asked();
      test.changed();
      test.ahead();
      test.compare();
    }
    Check.end();
  }

  private PointHouse make() {
    return state == 0 ? new PointHouse() : state == 1 ? some() : full();
  }

  /**
   * On the day 63 the balances are 50, 54 and 0, the member 2 owes 40 points, the members 0 and 1 can take the reward 0
   * alone, and of the transactions the one of number 2 alone can be taken back.
   */
  private static PointHouse some() {
    PointHouse house = Check.houseWith("rule a earn amount each 500; rule b when nth = 3 earn 9;", 3);
    house.addPartner(50, 10);
    house.addHousehold();
    house.addHousehold();
    house.move(2, 1);
    house.addReward(30, 2, 0);
    house.addReward(30, 0, 0);
    house.addReward(10, 5, 2);
    house.buy(0, 0, 100);
    house.take(0, 0);
    house.pass(5);
    house.buy(1, 1, 80);
    house.give(0, 1, 20);
    house.buy(1, 0, 50);
    house.takeBack(4);
    house.buy(2, 0, 40);
    house.give(2, 1, 40);
    house.takeBack(5);
    house.pass(58);
    house.state(0);
    Check.teach(house, "rule a %");
    Check.feedText(house, "rule q earn 5");
    return house;
  }

  /** The transactions from 50 on are of the day 61; 60 is taken back, 97 is a reward, 98 and 99 are gifts. */
  private static PointHouse full() {
    PointHouse house = Check.houseWith("rule a earn amount each 500;", 16);
    for (int i = 0; i < 6; i++) {
      house.addHousehold();
      house.move(i, i);
      house.move(i + 6, i);
    }
    for (int i = 1; i < 6; i++) {
      house.addPartner(60 * i, 66 * i);
    }
    for (int i = 0; i < 10; i++) {
      house.addReward(1 + i, 9 * i, i % 4);
    }
    for (int i = 0; i < 97; i++) {
      if (i == 50) {
        house.pass(61);
      }
      house.buy(i % 16, i % 6, 10 + i);
    }
    house.take(4, 4);
    house.give(5, 6, 20);
    house.give(7, 8, 1);
    house.takeBack(60);
    house.state(5);
    Check.teach(house, "rule a earn 1; rule a earn 2;");
    Check.feedText(house, "rule q earn 5; rule r earn 6 each 9;");
    return house;
  }

  /** What a house answers of all that its digest does not tell: its tape, its rules, what was given and what was taken. */
  private static String probe(PointHouse house) {
    StringBuilder told = new StringBuilder();
    told.append(house.errorAt()).append(' ').append(house.digest()).append(' ').append(house.breakage());
    int members = house.count(4);
    int partner = house.count(2) - 1;
    for (int i = 0; i < members && partner >= 0; i++) {
      told.append(' ').append(house.would(i, partner, 997)).append(' ').append(house.would(i, 0, 13));
      told.append(' ').append(house.expiring(i, 50)).append(' ').append(house.affords(i));
    }
    told.append(' ').append(house.teach()).append(' ').append(house.errorAt()).append(' ').append(house.count(1));
    for (int i = 0; i < members && partner >= 0; i += 5) {
      told.append(' ').append(house.would(i, partner, 997));
    }
    for (int i = house.count(6) - 1; i >= 0; i -= 1 + i / 20) {
      int transaction = i;
      told.append(' ').append(Check.answerOf(() -> house.takeBack(transaction)));
    }
    told.append(' ').append(house.digest());
    house.pass(200);
    return told.append(' ').append(house.digest()).toString();
  }

  private void compare() {
    Check.due("the house " + state + " behind refused calls", probe(touched), probe);
    touched = make();
    calls = 0;
  }

  private void each(String name, int[][] edges, Call call, Due due) {
    Check.sentence(name + " in the house " + state);
    int[] places = new int[edges.length];
    int[] a = new int[edges.length];
    boolean more = true;
    while (more) {
      for (int i = 0; i < a.length; i++) {
        a[i] = edges[i][places[i]];
      }
      one(java.util.Arrays.toString(a), a, call, due.of(a));
      more = false;
      for (int i = 0; i < a.length && !more; i++) {
        places[i] = (places[i] + 1) % edges[i].length;
        more = places[i] != 0;
      }
    }
  }

  private void one(String told, int[] a, Call call, String due) {
    if (due.equals(GOOD)) {
      PointHouse fresh = make();
      Object answer = Check.answerOf(() -> call.of(fresh, a));
      Check.due(told, answer instanceof Integer ? GOOD : answer, GOOD);
      return;
    }
    Check.due(told, Check.answerOf(() -> call.of(touched, a)), due);
    calls++;
    if (calls == CALLS) {
      compare();
    }
  }

  /** The edges of what is numbered from 0. */
  private static int[] of(int count) {
    return new int[] {MIN, -2, -1, 0, count - 1, count, MAX};
  }

  private static int[] range(int from, int to) {
    return new int[] {MIN, -1, from - 1, from, to, to + 1, MAX};
  }

  private static boolean in(int x, int from, int to) {
    return from <= x && x <= to;
  }

  private static String first(boolean index, boolean argument, boolean state) {
    return !index ? INDEX : !argument ? ARGUMENT : !state ? STATE : GOOD;
  }

  private boolean isMember(int x) {
    return in(x, 0, n[4] - 1);
  }

  private boolean isPartner(int x) {
    return in(x, 0, n[2] - 1);
  }

  private boolean isHousehold(int x) {
    return in(x, -1, n[3] - 1);
  }

  private boolean isReward(int x) {
    return in(x, 0, n[5] - 1);
  }

  private void told() {
    each("addPartner", new int[][] {range(10, 300), range(1, 400)}, (h, a) -> h.addPartner(a[0], a[1]),
        a -> first(true, in(a[0], 10, 300) && in(a[1], 1, 400), n[2] < 6));
    each("addHousehold", new int[][] {{0}}, (h, a) -> h.addHousehold(), a -> first(true, true, n[3] < 6));
    each("join", new int[][] {of(n[3])}, (h, a) -> h.join(a[0]), a -> first(isHousehold(a[0]), true, n[4] < 16));
    each("move", new int[][] {of(n[4]), of(n[3])}, (h, a) -> h.move(a[0], a[1]),
        a -> first(isMember(a[0]) && isHousehold(a[1]), true, true));
    each("addReward", new int[][] {range(1, 20000), range(0, 99), range(0, 3)}, (h, a) -> h.addReward(a[0], a[1], a[2]),
        a -> first(true, in(a[0], 1, 20000) && in(a[1], 0, 99) && in(a[2], 0, 3), n[5] < 10));
    each("trim", new int[][] {range(0, n[11])}, (h, a) -> h.trim(a[0]), a -> first(true, in(a[0], 0, n[11]), true));
  }

  private void asked() {
    each("reward", new int[][] {of(n[5]), of(4)}, (h, a) -> h.reward(a[0], a[1]),
        a -> first(isReward(a[0]) && in(a[1], 0, 3), true, true));
    each("member", new int[][] {of(n[4]), of(9)}, (h, a) -> h.member(a[0], a[1]),
        a -> first(isMember(a[0]) && in(a[1], 0, 8), true, true));
    each("transaction", new int[][] {of(n[6]), of(7)}, (h, a) -> h.transaction(a[0], a[1]),
        a -> first(in(a[0], 0, n[6] - 1) && in(a[1], 0, 6), true, true));
    each("lot", new int[][] {of(n[7]), of(5)}, (h, a) -> h.lot(a[0], a[1]),
        a -> first(in(a[0], 0, n[7] - 1) && in(a[1], 0, 4), true, true));
    each("count", new int[][] {of(13)}, (h, a) -> h.count(a[0]), a -> first(in(a[0], 0, 12), true, true));
    each("byteAt", new int[][] {of(n[12])}, (h, a) -> h.byteAt(a[0]), a -> first(in(a[0], 0, n[12] - 1), true, true));
    each("state", new int[][] {of(n[4])}, (h, a) -> h.state(a[0]), a -> first(isMember(a[0]), true, true));
  }

  private boolean canTake(int member, int reward) {
    return state == 1 && member < 2 && reward == 0;
  }

  private boolean canGive(int member, int points) {
    return state == 1 && member < 2 && points <= 50 + 4 * member;
  }

  private boolean canTakeBack(int transaction) {
    return state == 1 ? transaction == 2 : transaction >= 50 && transaction <= 97 && transaction != 60;
  }

  private void changed() {
    each("buy", new int[][] {of(n[4]), of(n[2]), range(1, 10000)}, (h, a) -> h.buy(a[0], a[1], a[2]),
        a -> first(isMember(a[0]) && isPartner(a[1]), in(a[2], 1, 10000), n[6] < 100));
    each("take", new int[][] {of(n[4]), {MIN, -1, 0, 1, 2, n[5] - 1, n[5], MAX}}, (h, a) -> h.take(a[0], a[1]),
        a -> first(isMember(a[0]) && isReward(a[1]), true, canTake(a[0], a[1])));
    each("give", new int[][] {{MIN, -1, 0, 1, 2, n[4] - 1, n[4], MAX}, of(n[4]), {MIN, -1, 0, 1, 50, 51, 54, 55, MAX}},
        (h, a) -> h.give(a[0], a[1], a[2]),
        a -> first(isMember(a[0]) && isMember(a[1]), a[0] != a[1] && a[2] >= 1, canGive(a[0], a[2])));
    each("takeBack", new int[][] {{MIN, -1, 0, 1, 2, 3, 4, 5, 6, 49, 50, 59, 60, 61, 96, 97, 98, n[6] - 1, n[6], 100, MAX}},
        (h, a) -> h.takeBack(a[0]), a -> first(in(a[0], 0, n[6] - 1), true, canTakeBack(a[0])));
    each("pass", new int[][] {range(1, 200)}, (h, a) -> h.pass(a[0]), a -> first(true, in(a[0], 1, 200), true));
  }

  private void ahead() {
    each("would", new int[][] {of(n[4]), of(n[2]), range(1, 10000)}, (h, a) -> h.would(a[0], a[1], a[2]),
        a -> first(isMember(a[0]) && isPartner(a[1]), in(a[2], 1, 10000), true));
    each("expiring", new int[][] {of(n[4]), range(0, 400)}, (h, a) -> h.expiring(a[0], a[1]),
        a -> first(isMember(a[0]), in(a[1], 0, 400), true));
    each("affords", new int[][] {of(n[4])}, (h, a) -> h.affords(a[0]), a -> first(isMember(a[0]), true, true));
    each("spend", new int[][] {of(n[4])}, (h, a) -> h.spend(a[0]), a -> first(isMember(a[0]), true, true));
    int[] few = {-1, 0, n[4] - 1, n[4]};
    int[] rewards = {-1, 0, n[5] - 1, n[5], MAX};
    int[] partners = {MIN, -1, 0, n[2] - 1, n[2]};
    each("when", new int[][] {few, rewards, partners, range(1, 10000), range(1, 60)},
        (h, a) -> h.when(a[0], a[1], a[2], a[3], a[4]),
        a -> first(isMember(a[0]) && isReward(a[1]) && isPartner(a[2]), in(a[3], 1, 10000) && in(a[4], 1, 60), true));
  }
}
