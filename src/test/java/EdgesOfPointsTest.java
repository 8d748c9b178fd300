/** The edges of '2. Members and points', sentence by sentence. */
public final class EdgesOfPointsTest {
  private static final String MOST = "(65536*32767+65535)";

  public static void main(String[] args) {
    partners();
    householdsMembersRewards();
    orderOfLots();
    orderOfEqualDays();
    transactions();
    factorIsCut();
    tierIsCut();
    nothingWraps();
    atMostAMillion();
    owedIsPaid();
    lotOfAPurchase();
    tierBehindAPurchase();
    score();
    scoreOfDays();
    ownTier();
    takesWithoutDebt();
    takesWithItsTier();
    takesFromStock();
    takesWithEnough();
    takesWithTheHousehold();
    ownLotsFirst();
    givesAll();
    nineTenths();
    dayOfAGift();
    giftPaysNothing();
    giftsOfThoseWhoOwe();
    Check.end();
  }

  private static PointHouse plain(int members) {
    return Check.houseWith("rule a earn amount;", members);
  }

  /** Member 0 owes so many points, and member 1 has 9 tenths of them; there are 2 transactions. */
  private static PointHouse owing(int points) {
    PointHouse house = plain(3);
    house.buy(0, 0, points);
    house.give(0, 1, points);
    Check.due("takeBack", house.takeBack(0), points);
    return house;
  }

  private static void partners() {
    Check.sentence("There are at most 6, numbered from 0 in the order of their telling; each has a factor, 10 to 300"
        + " (of 100), and a life, 1 to 400 (days that points last).");
    PointHouse house = plain(1);
    int[] factors = {10, 11, 100, 299, 300};
    int[] lives = {1, 2, 30, 399, 400};
    for (int i = 0; i < 5; i++) {
      Check.due("addPartner", house.addPartner(factors[i], lives[i]), i + 1);
    }
    Check.noState("a 7th partner", () -> house.addPartner(100, 100));
    house.pass(5);
    for (int i = 0; i < 5; i++) {
      Check.due("factor " + factors[i], house.buy(0, i + 1, 100), factors[i]);
      Check.due("life " + lives[i], Check.lot(house, i), "[0, " + factors[i] + ", " + (5 + lives[i]) + ", " + factors[i] + ", 0]");
    }
    Check.due("life 1", house.pass(1), 10);
    Check.due("life 2", house.pass(1), 11);
    Check.due("27 days later", house.pass(27), 0);
    Check.due("life 30", house.pass(1), 100);
    house.pass(200);
    Check.due("398 days", house.pass(168), 0);
    Check.due("life 399", house.pass(1), 299);
    Check.due("life 400", house.pass(1), 300);
  }

  private static void householdsMembersRewards() {
    Check.sentence("There are at most 16; each has a tier, 0 to 3 (0, at first), owes points (0, at first), and is in a"
        + " household, or in none.");
    PointHouse house = new PointHouse();
    for (int i = 0; i < 6; i++) {
      Check.due("addHousehold", house.addHousehold(), i);
    }
    Check.noState("a 7th household", house::addHousehold);
    for (int i = 0; i < 16; i++) {
      int household = i % 7 - 1;
      Check.due("join", house.join(household), i);
      Check.due("member", Check.member(house, i), "[" + household + ", 0, 0, 0, 0, 0, 0, 0, 0]");
    }
    Check.noState("a 17th member", () -> house.join(0));
    Check.sentence("There are at most 10; each has a cost, 1 to 20000, a stock, 0 to 99, and a least tier.");
    int[][] rewards = {{1, 0, 0}, {20000, 99, 3}, {2, 1, 1}, {19999, 98, 2}};
    for (int i = 0; i < 10; i++) {
      int[] one = rewards[i % 4];
      Check.due("addReward", house.addReward(one[0], one[1], one[2]), i);
      Check.due("reward", Check.reward(house, i), "[" + one[0] + ", " + one[1] + ", " + one[2] + ", 0]");
    }
    Check.noState("an 11th reward", () -> house.addReward(1, 1, 1));
  }

  private static String left(PointHouse house) {
    StringBuilder text = new StringBuilder();
    for (int i = 0; i < house.count(7); i++) {
      text.append(i == 0 ? "" : " ").append(house.lot(i, 1));
    }
    return text.toString();
  }

  /** Lots of 10 points that expire on the days 365, 20, 10, 20 and 10. */
  private static PointHouse fiveLots() {
    PointHouse house = plain(2);
    house.addPartner(100, 20);
    house.addPartner(100, 10);
    for (int partner : new int[] {0, 1, 2, 1, 2}) {
      house.buy(0, partner, 10);
    }
    return house;
  }

  private static void orderOfLots() {
    Check.sentence("Points are always taken from the lot that expires earliest, of several from the one with the smallest"
        + " number, then from the next one, and so on.");
    int[] points = {1, 9, 10, 11, 19, 20, 21, 30, 31, 40, 41, 49, 50};
    String[] lots = {"10 10 9 10 10", "10 10 1 10 10", "10 10 0 10 10", "10 10 0 10 9", "10 10 0 10 1", "10 10 0 10 0",
        "10 9 0 10 0", "10 0 0 10 0", "10 0 0 9 0", "10 0 0 0 0", "9 0 0 0 0", "1 0 0 0 0", "0 0 0 0 0"};
    for (int i = 0; i < points.length; i++) {
      PointHouse taker = fiveLots();
      taker.addReward(points[i], 1, 0);
      taker.take(0, 0);
      Check.due("taken " + points[i], left(taker), lots[i]);
      PointHouse giver = fiveLots();
      int got = giver.give(0, 1, points[i]);
      Check.due("given " + points[i], left(giver), lots[i] + (got == 0 ? "" : " " + got));
    }
  }

  private static void orderOfEqualDays() {
    PointHouse house = plain(1);
    house.addPartner(100, 9);
    house.addPartner(100, 10);
    house.addReward(5, 9, 0);
    house.buy(0, 2, 4);
    house.pass(1);
    house.buy(0, 1, 4);
    house.buy(0, 2, 4);
    house.take(0, 0);
    Check.due("told on other days, expiring on the same", left(house), "0 3 4");
    house.take(0, 0);
    Check.due("then the next one", left(house), "0 0 2");
    Check.noState("more than there is", () -> house.take(0, 0));
    Check.due("nothing changed", left(house), "0 0 2");
  }

  private static PointHouse withTransactions(int count) {
    PointHouse house = plain(2);
    house.addReward(1, 9, 0);
    for (int i = 0; i < count; i++) {
      house.buy(0, 0, 5);
    }
    return house;
  }

  private static void transactions() {
    Check.sentence("There are at most 100, numbered likewise: purchases, rewards that were taken, and gifts.");
    PointHouse purchases = withTransactions(99);
    PointHouse rewards = withTransactions(99);
    PointHouse gifts = withTransactions(99);
    Check.due("the 100th purchase", purchases.buy(0, 0, 7), 7);
    Check.due("transaction", Check.transaction(purchases, 99), "[0, 0, 0, 7, 0, 0, 99]");
    Check.due("the 100th reward", rewards.take(0, 0), 99);
    Check.due("the 100th gift", gifts.give(0, 1, 20), 18);
    Check.due("transaction", Check.transaction(gifts, 99), "[2, 0, 1, 20, 0, 0, 99]");
    for (PointHouse house : new PointHouse[] {purchases, rewards, gifts}) {
      long before = house.digest();
      Check.noState("a 101st purchase", () -> house.buy(0, 0, 7));
      Check.noState("a 101st reward", () -> house.take(0, 0));
      Check.noState("a 101st gift", () -> house.give(0, 1, 20));
      Check.due("nothing changed", house.digest(), before);
      house.takeBack(0);
      Check.noState("a 101st purchase behind taking back", () -> house.buy(0, 0, 7));
      Check.due("transactions", house.count(6), 100);
      Check.due("would", house.would(0, 0, 8) >= 8, true);
      Check.due("affords", house.affords(0), 0);
      Check.due("when", house.when(0, 0, 0, 1, 1), 0);
    }
  }

  private static void factorIsCut() {
    Check.sentence("The points of all rules, added, times the factor / 100");
    int[] factors = {10, 10, 10, 10, 10, 99, 99, 99, 300, 101, 101};
    int[] amounts = {1, 9, 10, 19, 20, 1, 2, 100, 1, 99, 100};
    int[] points = {0, 0, 1, 1, 2, 0, 1, 99, 3, 99, 101};
    for (int i = 0; i < factors.length; i++) {
      PointHouse house = plain(1);
      house.addPartner(factors[i], 5);
      Check.due(amounts[i] + " times " + factors[i], house.would(0, 1, amounts[i]), points[i]);
      Check.due(amounts[i] + " times " + factors[i], house.buy(0, 1, amounts[i]), points[i]);
      Check.due("lot", house.transaction(0, 6), points[i] == 0 ? -1 : 0);
    }
    PointHouse two = Check.houseWith("rule a earn 5; rule b earn 5;", 1);
    two.addPartner(10, 5);
    Check.due("added ahead of the factor", two.would(0, 1, 1), 1);
  }

  private static void tierIsCut() {
    Check.sentence("and this times (100 and 5 * the tier) / 100 are the points that are earned (each step is cut");
    int[] scores = {499, 500, 2000, 5000};
    for (int tier = 0; tier < 4; tier++) {
      PointHouse house = plain(1);
      house.buy(0, 0, scores[tier]);
      Check.due("tier", house.member(0, 1), tier);
      for (int amount : new int[] {1, 6, 7, 9, 10, 19, 20, 100, 10000}) {
        Check.due("tier " + tier + ", " + amount, house.would(0, 0, amount), amount * (100 + 5 * tier) / 100);
      }
    }
    PointHouse house = plain(1);
    house.addPartner(33, 5);
    house.buy(0, 0, 500);
    Check.due("56 times 33 is 18, and 105 of 100 of it 18", house.would(0, 1, 56), 18);
    Check.due("61 times 33 is 20, and 105 of 100 of it 21", house.would(0, 1, 61), 21);
  }

  private static void nothingWraps() {
    Check.sentence("(each step is cut, and none of them wraps around)");
    PointHouse sum = Check.houseWith("rule a earn " + MOST + "; rule b earn " + MOST + "; rule c earn 9;", 1);
    Check.due("the sum", sum.would(0, 0, 1), 1000000);
    Check.due("the sum", sum.buy(0, 0, 1), 1000000);
    PointHouse factor = Check.houseWith("rule a earn 14316*1000+558;", 1);
    factor.addPartner(300, 5);
    Check.due("the factor", factor.would(0, 1, 1), 1000000);
    PointHouse tier = plain(1);
    tier.buy(0, 0, 5000);
    Check.teach(tier, "rule a earn 37347*1000+542;");
    Check.due("the tier", tier.would(0, 0, 1), 1000000);
    StringBuilder twelve = new StringBuilder();
    for (int i = 0; i < 12; i++) {
      twelve.append("rule n").append(i).append(" earn ").append(MOST).append(";");
    }
    Check.teach(tier, twelve.toString());
    tier.addPartner(300, 5);
    tier.addPartner(10, 5);
    for (int partner = 0; partner < 3; partner++) {
      Check.due("12 times the most", tier.would(0, partner, 1), 1000000);
    }
  }

  private static void atMostAMillion() {
    Check.sentence("but at most 1000000");
    PointHouse house = Check.houseWith("rule a earn 999989+amount;", 1);
    Check.due("999999", house.would(0, 0, 10), 999999);
    Check.due("1000000", house.would(0, 0, 11), 1000000);
    Check.due("1000001", house.would(0, 0, 12), 1000000);
    Check.due("1000001", house.buy(0, 0, 12), 1000000);
    Check.due("lot", Check.lot(house, 0), "[0, 1000000, 365, 1000000, 0]");
    Check.due("score", house.member(0, 4), 1000000);
    PointHouse tenth = Check.houseWith("rule a earn 1000*9999+amount;", 1);
    tenth.addPartner(10, 5);
    Check.due("9999999 times 10 of 100", tenth.would(0, 1, 999), 999999);
    Check.due("10000000 times 10 of 100", tenth.would(0, 1, 1000), 1000000);
    Check.due("10000010 times 10 of 100", tenth.would(0, 1, 1010), 1000000);
    PointHouse tier = plain(1);
    tier.buy(0, 0, 500);
    Check.teach(tier, "rule a earn 952000+amount;");
    Check.due("952380 in tier 1", tier.would(0, 0, 380), 999999);
    Check.due("952381 in tier 1", tier.would(0, 0, 381), 1000000);
    Check.due("952382 in tier 1", tier.would(0, 0, 382), 1000000);
  }

  private static void owedIsPaid() {
    Check.sentence("If the member owes points, as many as are owed (at most those that are earned) pay this; the rest, if"
        + " it is more than 0, is a new lot");
    int[] amounts = {1, 99, 100, 101, 250};
    for (int amount : amounts) {
      PointHouse house = owing(100);
      Check.due("buy", house.buy(0, 0, amount), amount);
      int rest = Math.max(0, amount - 100);
      String lot = rest == 0 ? "-1" : "2";
      Check.due("owed", house.member(0, 3), Math.max(0, 100 - amount));
      Check.due("balance", house.member(0, 2), rest);
      Check.due("score", house.member(0, 4), amount);
      Check.due("transaction", Check.transaction(house, 2), "[0, 0, 0, " + amount + ", 0, 0, " + lot + "]");
      Check.due("lots", house.count(7), rest == 0 ? 2 : 3);
    }
    PointHouse nothing = owing(100);
    nothing.addPartner(10, 5);
    Check.due("earns nothing", nothing.buy(0, 1, 9), 0);
    Check.due("owed", nothing.member(0, 3), 100);
    PointHouse other = owing(100);
    other.buy(1, 0, 30);
    other.addHousehold();
    other.move(0, 0);
    other.move(1, 0);
    other.buy(1, 0, 30);
    Check.due("others pay nothing", other.member(0, 3), 100);
    Check.due("balance of the other", other.member(1, 2), 150);
  }

  private static void lotOfAPurchase() {
    Check.sentence("is a new lot that expires on the day now and the life of the partner");
    PointHouse house = plain(1);
    house.addPartner(100, 1);
    house.addPartner(100, 400);
    house.pass(7);
    house.buy(0, 1, 1);
    house.buy(0, 2, 1);
    Check.due("life 1", Check.lot(house, 0), "[0, 1, 8, 1, 0]");
    Check.due("life 400", Check.lot(house, 1), "[0, 1, 407, 1, 0]");
    Check.due("1 point", house.transaction(0, 6), 0);
    Check.teach(house, "rule a earn 0;");
    Check.due("0 points", house.buy(0, 1, 1), 0);
    Check.due("no lot", Check.transaction(house, 2), "[0, 0, 1, 0, 7, 0, -1]");
    Check.due("lots", house.count(7), 2);
  }

  private static void tierBehindAPurchase() {
    Check.sentence("Behind this the tier becomes the greater one of what it was and its own tier.");
    PointHouse house = plain(1);
    house.buy(0, 0, 499);
    Check.due("tier", house.member(0, 1), 0);
    house.buy(0, 0, 1);
    Check.due("tier", house.member(0, 1), 1);
    Check.due("at once from 1 to 3", house.buy(0, 0, 4500), 4725);
    Check.due("tier", house.member(0, 1), 3);
    house.takeBack(2);
    house.takeBack(0);
    Check.due("own tier", house.member(0, 5), 0);
    house.buy(0, 0, 1);
    Check.due("it does not become less", house.member(0, 1), 3);
    Check.due("own tier", house.member(0, 5), 0);
    Check.teach(house, "rule a earn 0;");
    house.pass(90);
    house.buy(0, 0, 1);
    Check.due("a purchase for nothing", house.member(0, 1), 0);
    Check.due("points of tier 3 that pay a debt", tierOfDebt(), 1);
  }

  private static int tierOfDebt() {
    PointHouse house = owing(499);
    house.buy(0, 0, 499);
    Check.due("tier", house.member(0, 1), 0);
    house.takeBack(2);
    house.buy(0, 0, 500);
    return house.member(0, 1);
  }

  private static void score() {
    Check.sentence("The score of a member are the points that were earned by purchases on this day and the 89 days ahead"
        + " of it, which are not taken back, added.");
    PointHouse house = plain(2);
    house.addReward(5, 9, 0);
    Check.due("without purchases", house.member(0, 4), 0);
    house.buy(0, 0, 20);
    house.buy(0, 0, 30);
    house.buy(1, 0, 7);
    house.take(0, 0);
    house.give(0, 1, 10);
    Check.due("rewards and gifts are none", house.member(0, 4), 50);
    Check.due("what is got is none", house.member(1, 4), 7);
    house.takeBack(3);
    Check.due("a reward taken back", house.member(0, 4), 50);
    house.takeBack(0);
    Check.due("a purchase taken back", house.member(0, 4), 30);
  }

  private static void scoreOfDays() {
    for (int day : new int[] {0, 1, 29, 30, 45}) {
      PointHouse house = plain(1);
      house.addPartner(100, 1);
      Check.passAll(house, day);
      house.buy(0, 1, 77);
      Check.due("today", house.member(0, 4), 77);
      house.pass(88);
      house.buy(0, 1, 5);
      Check.due("88 days later", house.member(0, 4), 82);
      house.pass(1);
      Check.due("89 days later, also of points that expired", house.member(0, 4), 82);
      house.pass(1);
      Check.due("90 days later", house.member(0, 4), 5);
      house.pass(87);
      Check.due("89 days behind the second", house.member(0, 4), 5);
      house.pass(1);
      Check.due("90 days behind the second", house.member(0, 4), 0);
    }
  }

  private static void ownTier() {
    Check.sentence("The own tier: 0, from a score of 500 on 1, from 2000 on 2, from 5000 on 3.");
    int[] scores = {0, 1, 499, 500, 501, 1999, 2000, 2001, 4999, 5000, 5001, 1000000};
    int[] tiers = {0, 0, 0, 1, 1, 1, 2, 2, 2, 3, 3, 3};
    for (int i = 0; i < scores.length; i++) {
      PointHouse house = Check.houseWith("rule a earn " + scores[i] / 1000 + "*1000+" + scores[i] % 1000 + ";", 1);
      house.buy(0, 0, 1);
      Check.due("score", house.member(0, 4), scores[i]);
      Check.due("own tier of " + scores[i], house.member(0, 5), tiers[i]);
      Check.due("tier of " + scores[i], house.member(0, 1), tiers[i]);
    }
  }

  private static void takesWithoutDebt() {
    Check.sentence("It can be taken by a member who owes nothing");
    PointHouse house = owing(1);
    house.addReward(3, 9, 0);
    house.buy(1, 0, 10);
    house.give(1, 0, 10);
    Check.due("owed", house.member(0, 3), 1);
    Check.due("balance", house.member(0, 2), 9);
    Check.noState("who owes 1", () -> house.take(0, 0));
    Check.due("affords", house.affords(0), -1);
    house.buy(0, 0, 1);
    Check.due("affords", house.affords(0), 0);
    Check.due("who owes 0", house.take(0, 0), 5);
  }

  private static void takesWithItsTier() {
    Check.sentence("and has its least tier at least");
    int[] scores = {499, 500, 2000, 5000};
    for (int tier = 0; tier < 4; tier++) {
      PointHouse house = plain(2);
      house.buy(0, 0, scores[tier]);
      for (int least = 0; least < 4; least++) {
        int reward = house.addReward(10 + least, 9, least);
        if (least <= tier) {
          Check.due("takes with tier " + tier, house.take(0, reward), 1 + least);
        } else {
          Check.noState("takes with tier " + tier, () -> house.take(0, reward));
        }
      }
      Check.due("affords", house.affords(0), tier);
    }
    PointHouse household = plain(2);
    household.addHousehold();
    household.move(0, 0);
    household.move(1, 0);
    household.buy(0, 0, 600);
    household.addReward(10, 9, 1);
    Check.noState("the tier of another in the household", () -> household.take(1, 0));
    Check.due("the own tier", household.take(0, 0), 1);
  }

  private static void takesFromStock() {
    Check.sentence("if the stock is not 0");
    PointHouse house = plain(1);
    house.addReward(10, 0, 0);
    house.addReward(10, 1, 0);
    house.buy(0, 0, 100);
    Check.noState("stock 0", () -> house.take(0, 0));
    Check.due("stock 1", house.take(0, 1), 1);
    Check.sentence("The stock is 1 less.");
    Check.due("reward", Check.reward(house, 1), "[10, 0, 0, 1]");
    Check.noState("stock 0", () -> house.take(0, 1));
    Check.due("nothing changed", Check.reward(house, 1), "[10, 0, 0, 1]");
    house.takeBack(1);
    Check.due("stock 1 again", house.take(0, 1), 2);
  }

  private static void takesWithEnough() {
    Check.sentence("and there are enough points: those of this member");
    for (int cost : new int[] {99, 100, 101}) {
      PointHouse house = plain(2);
      house.addReward(cost, 9, 0);
      house.buy(0, 0, 60);
      house.buy(0, 0, 40);
      house.buy(1, 0, 500);
      if (cost <= 100) {
        Check.due("cost " + cost, house.take(0, 0), 3);
        Check.due("balance", house.member(0, 2), 100 - cost);
      } else {
        Check.noState("cost " + cost, () -> house.take(0, 0));
        Check.due("balance", house.member(0, 2), 100);
      }
      Check.due("balance of the other", house.member(1, 2), 500);
    }
    PointHouse nothing = plain(1);
    nothing.addReward(1, 9, 0);
    Check.noState("no points", () -> nothing.take(0, 0));
    nothing.buy(0, 0, 1);
    Check.due("1 point", nothing.take(0, 0), 1);
  }

  private static PointHouse household() {
    PointHouse house = plain(5);
    house.addHousehold();
    house.addHousehold();
    house.addPartner(100, 5);
    house.move(0, 0);
    house.move(1, 0);
    house.move(2, 0);
    house.move(3, 1);
    house.buy(0, 0, 10);
    house.buy(1, 0, 20);
    house.buy(2, 1, 30);
    house.buy(3, 0, 500);
    house.buy(4, 0, 500);
    return house;
  }

  private static void takesWithTheHousehold() {
    Check.sentence("and, if one is in a household, of all others of it (whatever these owe)");
    PointHouse less = household();
    less.addReward(60, 9, 0);
    less.addReward(61, 9, 0);
    Check.noState("1 too many", () -> less.take(0, 1));
    Check.due("nothing changed", left(less), "10 20 30 500 500");
    Check.due("affords", less.affords(0), 0);
    Check.due("all of them", less.take(0, 0), 5);
    Check.due("left", left(less), "0 0 0 500 500");
    PointHouse none = household();
    none.addReward(501, 9, 0);
    Check.noState("without a household", () -> none.take(4, 0));
    none.move(3, -1);
    Check.noState("two without a household", () -> none.take(4, 0));
    none.move(3, 1);
    none.move(4, 1);
    Check.due("both in one", none.take(4, 0), 5);
    PointHouse debts = owing(100);
    debts.addHousehold();
    debts.move(0, 0);
    debts.move(1, 0);
    debts.addReward(90, 9, 0);
    Check.noState("who owes", () -> debts.take(0, 0));
    Check.due("whatever the others owe", debts.take(1, 0), 2);
    Check.due("they owe it still", debts.member(0, 3), 100);
  }

  private static void ownLotsFirst() {
    Check.sentence("The cost is taken from the lots of this member, and, if these are not enough, from all those of the"
        + " others of the household together.");
    int[] costs = {9, 10, 11, 40, 41, 60};
    String[] lots = {"1 20 30", "0 20 30", "0 20 29", "0 20 0", "0 19 0", "0 0 0"};
    for (int i = 0; i < costs.length; i++) {
      PointHouse house = household();
      house.addReward(costs[i], 9, 0);
      house.take(0, 0);
      Check.due("cost " + costs[i], left(house), lots[i] + " 500 500");
      house.takeBack(5);
      Check.due("taken back", left(house), "10 20 30 500 500");
    }
    PointHouse house = household();
    house.addReward(25, 9, 0);
    house.take(1, 0);
    Check.due("of others the earliest, though its number is greater", left(house), "10 0 25 500 500");
  }

  private static void givesAll() {
    Check.sentence("or has not so many");
    PointHouse house = household();
    Check.noState("1 more than all", () -> house.give(0, 1, 11));
    Check.noState("as many as there can be", () -> house.give(0, 1, Integer.MAX_VALUE));
    Check.due("nothing changed", left(house), "10 20 30 500 500");
    Check.due("all", house.give(0, 1, 10), 9);
    Check.noState("of nothing", () -> house.give(0, 1, 1));
    Check.due("balance", house.member(0, 2), 0);
    PointHouse expired = household();
    expired.pass(5);
    Check.noState("what has expired", () -> expired.give(2, 1, 1));
  }

  private static void nineTenths() {
    Check.sentence("if it would have 0 points, there is no lot");
    int[] points = {1, 2, 3, 9, 10, 11, 19, 20, 99, 100, 111, 1000};
    int[] got = {0, 1, 2, 8, 9, 9, 17, 18, 89, 90, 99, 900};
    for (int i = 0; i < points.length; i++) {
      PointHouse house = plain(2);
      house.buy(0, 0, 1000);
      Check.due("give " + points[i], house.give(0, 1, points[i]), got[i]);
      Check.due("balance of the giver", house.member(0, 2), 1000 - points[i]);
      Check.due("balance of the other", house.member(1, 2), got[i]);
      Check.due("lots", house.count(7), got[i] == 0 ? 1 : 2);
      String lot = got[i] == 0 ? "-1" : "1";
      Check.due("transaction", Check.transaction(house, 1), "[2, 0, 1, " + points[i] + ", 0, 0, " + lot + "]");
    }
    PointHouse rich = Check.houseWith("rule a earn 1000*1000;", 2);
    for (int i = 0; i < 99; i++) {
      rich.buy(0, 0, 1);
    }
    Check.due("99 million", rich.give(0, 1, 99000000), 89100000);
    Check.due("lot", Check.lot(rich, 99), "[1, 89100000, 365, 89100000, 0]");
  }

  private static void dayOfAGift() {
    Check.sentence("which expires on the earliest day of those from which points were taken");
    PointHouse house = fiveLots();
    house.give(0, 1, 5);
    Check.due("one lot", Check.lot(house, 5), "[1, 4, 10, 4, 0]");
    house.give(0, 1, 15);
    Check.due("two lots of a day", house.lot(6, 2), 10);
    house.give(0, 1, 25);
    Check.due("not those that are empty", house.lot(7, 2), 20);
    house.give(0, 1, 5);
    Check.due("the latest", house.lot(8, 2), 365);
    PointHouse expired = fiveLots();
    expired.pass(10);
    expired.give(0, 1, 30);
    Check.due("not those that expired", expired.lot(5, 2), 20);
    PointHouse across = fiveLots();
    across.give(0, 1, 50);
    Check.due("all of them", Check.lot(across, 5), "[1, 45, 10, 45, 0]");
    across.pass(9);
    Check.due("it expires with them", across.pass(1), 45);
  }

  private static void giftPaysNothing() {
    Check.sentence("owed points are not paid by it");
    PointHouse house = owing(100);
    Check.due("give", house.give(1, 0, 90), 81);
    Check.due("owed", house.member(0, 3), 100);
    Check.due("balance", house.member(0, 2), 81);
    Check.due("the next purchase pays", house.buy(0, 0, 40), 40);
    Check.due("owed", house.member(0, 3), 60);
    Check.due("balance", house.member(0, 2), 81);
  }

  private static void giftsOfThoseWhoOwe() {
    Check.sentence("the one who gives owes points");
    PointHouse house = owing(1);
    house.buy(1, 0, 100);
    house.give(1, 0, 100);
    Check.noState("who owes 1", () -> house.give(0, 1, 1));
    Check.due("balance", house.member(0, 2), 90);
    house.buy(0, 0, 1);
    Check.due("who owes 0", house.give(0, 1, 90), 81);
  }
}
