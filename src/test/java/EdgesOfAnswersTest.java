import java.math.BigInteger;

/** The edges of what promises 1 and 6 to 29 answer, sentence by sentence; what they refuse is in RefusalsTest. */
public final class EdgesOfAnswersTest {
  public static void main(String[] args) {
    newObject();
    newHousehold();
    moved();
    rewardTaken();
    memberTold();
    transactionTold();
    lotTold();
    passed();
    counted();
    countedOfAllMembers();
    would();
    wouldWithAHundred();
    expiring();
    expiringLess();
    affordsTheGreatest();
    affordsWhatCanBeTaken();
    affordsWithAHundred();
    spendsAtMost();
    spendsOnlyWhatCounts();
    spendsAlsoWithDebt();
    spendsOfTen();
    whenToday();
    whenByTheLastDay();
    whenEach();
    whenPointsExpire();
    whenTiersChange();
    whenWithDebt();
    whenWithAHundred();
    whenChangesNothing();
    stateOfNothing();
    stateOfAll();
    stateInThePlace();
    placesOnThePaper();
    breakage();
    digest();
    lastCalls();
    Check.end();
  }

  private static PointHouse plain(int members) {
    return Check.houseWith("rule a earn amount;", members);
  }

  private static PointHouse bought(int... amounts) {
    PointHouse house = plain(2);
    for (int amount : amounts) {
      house.buy(0, 0, amount);
    }
    return house;
  }

  private static PointHouse owing(int points) {
    PointHouse house = bought(points);
    house.give(0, 1, points);
    Check.due("takeBack", house.takeBack(0), points);
    return house;
  }

  private static void newObject() {
    Check.sentence("Creates a scheme without rules, partners and members, on the day 0.");
    PointHouse house = new PointHouse();
    Check.due("counts", Check.counts(house), "[0, 0, 0, 0, 0, 0, 0, 0, 0, 0, 0, 0, 0]");
    Check.due("errorAt", house.errorAt(), -1);
    Check.due("breakage", house.breakage(), 0.0);
    Check.due("a day of nothing", house.pass(30), 0);
    Check.due("the first partner", house.addPartner(100, 1), 0);
    Check.due("the first member", house.join(-1), 0);
    Check.due("a purchase without rules", house.buy(0, 0, 10000), 0);
    PointHouse other = new PointHouse();
    Check.due("another object has nothing of it", Check.counts(other), "[0, 0, 0, 0, 0, 0, 0, 0, 0, 0, 0, 0, 0]");
  }

  private static void newHousehold() {
    Check.sentence("Returns the number of a new household, without members.");
    PointHouse house = Check.houseWith("rule a earn members;", 2);
    Check.due("the first", house.addHousehold(), 0);
    Check.due("households of those who were there", house.member(0, 0), -1);
    Check.due("the second", house.addHousehold(), 1);
    house.move(0, 1);
    Check.due("nobody else is in it", house.would(0, 0, 1), 1);
  }

  private static void moved() {
    Check.sentence("Returns the household before, -1 for none.");
    PointHouse house = plain(1);
    Check.due("from none to none", house.move(0, -1), -1);
    house.addHousehold();
    house.addHousehold();
    Check.due("from none to the first", house.move(0, 0), -1);
    Check.due("to the same", house.move(0, 0), 0);
    Check.due("to the last", house.move(0, 1), 0);
    Check.due("to none", house.move(0, -1), 1);
    Check.due("from none", house.move(0, 1), -1);
  }

  private static void rewardTaken() {
    Check.sentence("3 how often it was taken, and not taken back");
    PointHouse house = bought(100);
    house.addReward(10, 3, 0);
    Check.due("never", house.reward(0, 3), 0);
    for (int i = 1; i <= 3; i++) {
      house.take(0, 0);
      Check.due("taken", Check.reward(house, 0), "[10, " + (3 - i) + ", 0, " + i + "]");
    }
    for (int i = 1; i <= 3; i++) {
      house.takeBack(i);
      Check.due("taken back", Check.reward(house, 0), "[10, " + i + ", 0, " + (3 - i) + "]");
    }
  }

  private static void memberTold() {
    Check.sentence("8 lots with points left");
    PointHouse house = bought(10, 1, 20);
    Check.due("member", Check.member(house, 0), "[-1, 0, 31, 0, 31, 0, 3, 0, 3]");
    house.give(0, 1, 9);
    Check.due("1 left in a lot", house.member(0, 8), 3);
    house.give(0, 1, 1);
    Check.due("none left in a lot", house.member(0, 8), 2);
    house.give(0, 1, 1);
    Check.due("none left in two lots", house.member(0, 8), 1);
    Check.due("lots of the other", house.member(1, 8), 1);
    Check.sentence("6 purchases that are not taken back");
    Check.due("purchases", house.member(0, 6), 3);
    house.takeBack(2);
    Check.due("purchases", house.member(0, 6), 2);
    Check.due("purchases of the other", house.member(1, 6), 0);
    Check.sentence("7 points that expired in all");
    Check.due("none expired", house.member(0, 7), 0);
    Check.passAll(house, 365);
    Check.due("what was not taken back", house.member(0, 7), 0);
    Check.due("what was got", house.member(1, 7), 8);
  }

  private static void transactionTold() {
    Check.sentence("3 its points (earned, the cost, or given), 4 its day, 5 1 if it was taken back, else 0, 6 its lot, -1 for"
        + " none");
    PointHouse house = plain(3);
    house.addPartner(50, 9);
    house.addReward(1, 9, 0);
    house.addReward(20, 9, 0);
    house.buy(2, 1, 100);
    house.pass(1);
    house.take(2, 1);
    house.give(2, 1, 1);
    house.give(2, 1, 11);
    house.buy(0, 1, 1);
    Check.due("purchase", Check.transaction(house, 0), "[0, 2, 1, 50, 0, 0, 0]");
    Check.due("reward", Check.transaction(house, 1), "[1, 2, 1, 20, 1, 0, -1]");
    Check.due("gift without a lot", Check.transaction(house, 2), "[2, 2, 1, 1, 1, 0, -1]");
    Check.due("gift", Check.transaction(house, 3), "[2, 2, 1, 11, 1, 0, 1]");
    Check.due("purchase without a lot", Check.transaction(house, 4), "[0, 0, 1, 0, 1, 0, -1]");
    house.takeBack(0);
    house.takeBack(1);
    Check.due("purchase taken back", Check.transaction(house, 0), "[0, 2, 1, 50, 0, 1, 0]");
    Check.due("reward taken back", Check.transaction(house, 1), "[1, 2, 1, 20, 1, 1, -1]");
  }

  private static void lotTold() {
    Check.sentence("0 its member, 1 the points left, 2 the day on which it expires, 3 its points at first, 4 those of it that"
        + " have expired");
    PointHouse house = plain(2);
    house.addPartner(100, 3);
    house.buy(1, 1, 10);
    Check.due("at first", Check.lot(house, 0), "[1, 10, 3, 10, 0]");
    house.give(1, 0, 4);
    Check.due("given", Check.lot(house, 0), "[1, 6, 3, 10, 0]");
    Check.due("got", Check.lot(house, 1), "[0, 3, 3, 3, 0]");
    house.pass(2);
    Check.due("the day ahead", Check.lot(house, 0), "[1, 6, 3, 10, 0]");
    house.pass(1);
    Check.due("on the day", Check.lot(house, 0), "[1, 0, 3, 10, 6]");
    Check.due("on the day", Check.lot(house, 1), "[0, 0, 3, 3, 3]");
    house.pass(1);
    Check.due("the day behind", Check.lot(house, 0), "[1, 0, 3, 10, 6]");
  }

  private static void passed() {
    Check.sentence("Throws IllegalArgumentException if days is not 1 to 200");
    PointHouse house = bought(10);
    Check.due("1 day", house.pass(1), 0);
    Check.due("day", house.count(0), 1);
    Check.due("200 days", house.pass(200), 0);
    Check.due("day", house.count(0), 201);
    Check.due("163 days", house.pass(163), 0);
    Check.due("the day 365", house.pass(1), 10);
    Check.due("the day 366", house.pass(1), 0);
  }

  private static void counted() {
    Check.sentence("8 points left in all lots, 9 points owed by all, 10 points that expired in all, 11 bytes of the tape, 12"
        + " bytes of the paper");
    PointHouse house = plain(3);
    house.addPartner(100, 2);
    house.buy(0, 1, 10);
    house.buy(1, 1, 20);
    house.buy(2, 0, 40);
    Check.due("left in all", house.count(8), 70);
    house.give(0, 2, 10);
    house.give(1, 2, 15);
    Check.due("left in all", house.count(8), 5 + 40 + 9 + 13);
    house.takeBack(0);
    house.takeBack(1);
    Check.due("owed by all", house.count(9), 25);
    house.pass(2);
    Check.due("left in all", house.count(8), 40);
    Check.due("expired in all", house.count(10), 22);
    house.state(2);
    house.feed(0, 0, 0, 0, 0);
    Check.due("counts", Check.counts(house), "[2, 1, 2, 0, 3, 0, 5, 5, 40, 25, 22, 20, 30]");
    Check.due("paper", Check.paper(house), "0 B +40\n0 G +9\n0 G +13\n40 0 0\n");
  }

  private static void countedOfAllMembers() {
    Check.sentence("8 points left in all lots, 9 points owed by all, 10 points that expired in all");
    PointHouse house = plain(16);
    house.addPartner(100, 2);
    int left = 0;
    int owed = 0;
    for (int i = 0; i < 16; i++) {
      Check.due("left in all", house.count(8), left);
      Check.due("owed by all", house.count(9), owed);
      house.buy(i, 1, 100);
      house.give(i, (i + 1) % 16, 10 + i);
      house.takeBack(2 * i);
      left = house.member((i + 1) % 16, 2);
      owed += house.member(i, 3);
      Check.due("owed by the member " + i, house.member(i, 3) > 0, true);
      Check.due("left of the member " + i, house.member(i, 2), 0);
    }
    Check.due("left in all", house.count(8), left);
    Check.due("owed by all", house.count(9), owed);
    for (int i = 0; i < 16; i++) {
      house.teach();
      Check.teach(house, "rule a earn owed+" + (i + 1) + ";");
      house.buy(i, 1, 1);
    }
    Check.due("owed by all", house.count(9), 0);
    Check.due("left in all", house.count(8), 136 + left);
    Check.due("they expire", house.pass(2), 136 + left);
    Check.due("expired in all", house.count(10), 136 + left);
    Check.due("left in all", house.count(8), 0);
  }

  private static void would() {
    Check.sentence("Returns the points that such a purchase would earn now (nothing is changed; also with 100 transactions).");
    PointHouse house = Check.houseWith("rule a earn amount each 9999; rule b when nth=2 earn 1;", 1);
    long before = house.digest();
    Check.due("amount 1", house.would(0, 0, 1), 1);
    Check.due("amount 10000", house.would(0, 0, 10000), 9999);
    Check.due("once more", house.would(0, 0, 10000), 9999);
    Check.due("nothing is changed", house.digest(), before);
    Check.due("buy", house.buy(0, 0, 9000), 9000);
    Check.due("what is left, and the second", house.would(0, 0, 10000), 1000 * 115 / 100);
  }

  private static PointHouse hundred() {
    PointHouse house = plain(2);
    for (int i = 0; i < 100; i++) {
      house.buy(0, 0, 2);
    }
    return house;
  }

  private static void wouldWithAHundred() {
    PointHouse house = hundred();
    long before = house.digest();
    Check.due("would", house.would(0, 0, 7), 7);
    Check.due("would of another", house.would(1, 0, 10000), 10000);
    Check.noState("buy", () -> house.buy(0, 0, 7));
    Check.due("nothing is changed", house.digest(), before);
    Check.sentence("There are at most 100, numbered likewise");
    Check.due("the last lot", Check.lot(house, 99), "[0, 2, 365, 2, 0]");
    Check.due("member", Check.member(house, 0), "[-1, 0, 200, 0, 200, 0, 100, 0, 100]");
    Check.due("expiring", house.expiring(0, 365), 200);
    Check.due("state", house.state(0), 100 * 7 + 8);
    house.pass(5);
    Check.due("taking back the last", house.takeBack(99), 0);
    Check.due("member", Check.member(house, 0), "[-1, 0, 198, 0, 198, 0, 99, 0, 99]");
    Check.due("days", house.pass(200) + house.pass(160), 198);
    Check.due("breakage", house.breakage(), 0.99);
  }

  private static void expiring() {
    Check.sentence("Returns the points of this one that expire in so many days, if they are not taken.");
    PointHouse house = plain(2);
    int[] lives = {1, 2, 30, 399, 400};
    for (int i = 0; i < 5; i++) {
      house.addPartner(100, lives[i]);
      house.buy(0, i + 1, 1 << i);
      house.buy(1, i + 1, 100);
    }
    int[] days = {0, 1, 2, 3, 29, 30, 31, 398, 399, 400};
    int[] points = {0, 1, 3, 3, 3, 7, 7, 7, 15, 31};
    for (int i = 0; i < days.length; i++) {
      Check.due("in " + days[i] + " days", house.expiring(0, days[i]), points[i]);
    }
    Check.due("nothing is changed", house.member(0, 2), 31);
    house.pass(1);
    Check.due("on the next day, in 0 days", house.expiring(0, 0), 0);
    Check.due("on the next day, in 1 day", house.expiring(0, 1), 2);
    Check.due("on the next day, in 29 days", house.expiring(0, 29), 6);
    Check.due("as many as expire then", house.pass(29), 206);
    PointHouse nothing = plain(1);
    Check.due("of nothing", nothing.expiring(0, 400), 0);
  }

  private static void expiringLess() {
    PointHouse house = plain(2);
    house.addPartner(100, 10);
    house.addReward(3, 9, 0);
    house.buy(0, 1, 10);
    house.buy(0, 0, 50);
    house.take(0, 0);
    Check.due("behind a reward", house.expiring(0, 10), 7);
    house.give(0, 1, 2);
    Check.due("behind a gift", house.expiring(0, 10), 5);
    Check.due("what was got", house.expiring(1, 10), 1);
    house.takeBack(2);
    Check.due("behind taking back", house.expiring(0, 10), 8);
    house.takeBack(0);
    Check.due("behind taking all back", house.expiring(0, 10), 0);
    Check.due("the other lot", house.expiring(0, 365), 48);
  }

  private static void affordsTheGreatest() {
    Check.sentence("Looks for the reward with the greatest cost that a member could take now (by what is told of rewards;"
        + " also with 100 transactions); of several the one with the smallest number.");
    PointHouse none = bought(10000);
    Check.due("no rewards", none.affords(0), -1);
    int[] costs = {20, 10, 30, 30, 10, 31};
    int[] points = {9, 10, 19, 20, 29, 30, 31};
    int[] best = {-1, 1, 1, 0, 0, 2, 5};
    for (int i = 0; i < points.length; i++) {
      PointHouse house = bought(points[i]);
      for (int cost : costs) {
        house.addReward(cost, 1, 0);
      }
      Check.due(points[i] + " points", house.affords(0), best[i]);
      Check.due("the other", house.affords(1), -1);
    }
    PointHouse least = bought(1);
    least.addReward(1, 1, 0);
    Check.due("cost 1", least.affords(0), 0);
    Check.teach(least, "rule a earn 20000;");
    for (int i = 1; i < 10; i++) {
      least.addReward(20000, 1, 0);
    }
    least.buy(0, 0, 1);
    Check.due("cost 20000", least.affords(0), 1);
  }

  private static void affordsWhatCanBeTaken() {
    Check.sentence("that a member could take now (by what is told of rewards");
    PointHouse house = bought(499);
    house.addHousehold();
    house.addReward(10, 1, 0);
    house.addReward(20, 0, 0);
    house.addReward(30, 1, 1);
    house.addReward(600, 1, 0);
    Check.due("neither without stock, nor above its tier", house.affords(0), 0);
    house.take(0, 0);
    Check.due("the last of the stock is taken", house.affords(0), -1);
    house.buy(0, 0, 1);
    Check.due("with the tier", house.affords(0), 2);
    house.buy(1, 0, 110);
    Check.due("490 points", house.affords(0), 2);
    house.move(0, 0);
    house.move(1, 0);
    Check.due("600 points with the household", house.affords(0), 3);
    Check.due("600 points with the household, in tier 0", house.affords(1), 3);
    house.move(1, -1);
    house.give(0, 1, 490);
    Check.due("0 points", house.affords(0), -1);
    house.takeBack(0);
    house.move(1, 0);
    Check.due("who owes", house.affords(0), -1);
    Check.due("nothing for 551 points", house.affords(1), -1);
    house.addReward(552, 1, 0);
    house.addReward(551, 1, 0);
    Check.due("whatever the others owe", house.affords(1), 5);
  }

  private static void affordsWithAHundred() {
    Check.sentence("also with 100 transactions");
    PointHouse house = hundred();
    house.addReward(200, 1, 0);
    house.addReward(201, 1, 0);
    Check.due("affords", house.affords(0), 0);
    Check.due("affords of the other", house.affords(1), -1);
    Check.noState("take", () -> house.take(0, 0));
  }

  private static void spendsAtMost() {
    Check.sentence("Looks for the greatest number of points of the own balance that a member could spend for rewards, each at"
        + " most once");
    int[] points = {1, 4, 5, 6, 7, 11, 12, 16, 17, 18, 19, 23, 24, 25, 499, 5000};
    int[] spent = {0, 0, 5, 5, 7, 7, 12, 12, 17, 17, 19, 19, 24, 24, 24, 31};
    for (int i = 0; i < points.length; i++) {
      PointHouse house = bought(points[i]);
      Check.due("no rewards", house.spend(0), 0);
      house.addReward(12, 9, 0);
      house.addReward(5, 9, 0);
      house.addReward(7, 9, 3);
      house.addReward(7, 9, 0);
      Check.due(points[i] + " points", house.spend(0), spent[i]);
      Check.due("no points", house.spend(1), 0);
    }
  }

  private static void spendsOnlyWhatCounts() {
    Check.sentence("only rewards that are in stock, and of which the least tier is reached, count");
    PointHouse house = bought(499);
    house.addReward(1, 1, 0);
    house.addReward(2, 0, 0);
    house.addReward(4, 1, 1);
    house.addReward(8, 9, 0);
    Check.due("tier 0", house.spend(0), 9);
    house.take(0, 0);
    Check.due("the last of the stock is taken", house.spend(0), 8);
    house.buy(0, 0, 1);
    Check.due("tier 1", house.spend(0), 12);
    house.takeBack(1);
    Check.due("taken back", house.spend(0), 13);
    Check.sentence("of the own balance");
    house.addHousehold();
    house.move(0, 0);
    house.move(1, 0);
    Check.due("the household does not count", house.spend(1), 0);
    house.give(0, 1, 1);
    house.give(0, 1, 2);
    Check.due("1 point", house.spend(1), 1);
  }

  private static void spendsAlsoWithDebt() {
    Check.sentence("count (also if this one owes points)");
    PointHouse house = owing(10);
    house.addReward(8, 1, 0);
    house.addReward(9, 1, 0);
    Check.due("without points", house.spend(0), 0);
    house.give(1, 0, 9);
    Check.due("owed", house.member(0, 3), 10);
    Check.due("8 points", house.spend(0), 8);
    Check.due("affords nothing", house.affords(0), -1);
  }

  private static void spendsOfTen() {
    PointHouse house = Check.houseWith("rule a earn 1000*10+amount;", 1);
    house.buy(0, 0, 1);
    for (int i = 0; i < 10; i++) {
      house.addReward(20000 - i, 1, 0);
    }
    Check.due("10001 points", house.spend(0), 0);
    for (int i = 0; i < 20; i++) {
      house.buy(0, 0, 10000);
    }
    Check.due("all ten", house.spend(0), 200000 - 45);
    PointHouse ten = bought(1000);
    for (int i = 0; i < 10; i++) {
      ten.addReward(1 << i, 1, 0);
    }
    Check.due("each of ten", ten.spend(0), 1000);
    ten.buy(0, 0, 21);
    Check.due("1022 points", ten.spend(0), 1022);
    ten.buy(0, 0, 1);
    Check.due("1023 points", ten.spend(0), 1023);
    ten.buy(0, 0, 1);
    Check.due("1024 points", ten.spend(0), 1023);
  }

  private static void whenToday() {
    Check.sentence("if the member makes a purchase today and then again each so many days");
    PointHouse house = plain(2);
    house.addReward(10, 1, 0);
    Check.due("with the purchase of today", house.when(0, 0, 0, 10, 60), 0);
    Check.due("not quite with it", house.when(0, 0, 0, 9, 60), 60);
    house.buy(0, 0, 10);
    Check.due("without a purchase", house.when(0, 0, 0, 1, 60), 0);
    house.addReward(1, 0, 0);
    Check.due("without stock", house.when(0, 1, 0, 10000, 1), -1);
  }

  private static void whenByTheLastDay() {
    Check.sentence("looked at behind the purchase of a day: at most 120; -1 if not by then");
    for (int every = 1; every <= 60; every++) {
      PointHouse house = plain(1);
      int times = Math.min(100, 120 / every + 1);
      house.addReward(2 * times, 1, 0);
      house.addReward(2 * times + 1, 1, 0);
      house.addReward(2 * times - 2, 1, 0);
      Check.due("with the last purchase, each " + every, house.when(0, 0, 0, 2, every), every * (times - 1));
      Check.due("a point too few, each " + every, house.when(0, 1, 0, 2, every), -1);
      Check.due("with the one ahead of it, each " + every, house.when(0, 2, 0, 2, every), every * (times - 2));
    }
  }

  private static void whenEach() {
    Check.sentence("Throws IllegalArgumentException if amount is not 1 to 10000, or every is not 1 to 60");
    PointHouse house = plain(1);
    house.addReward(20000, 1, 0);
    house.addReward(3, 1, 0);
    Check.due("amount 10000, each day", house.when(0, 0, 0, 10000, 1), 1);
    Check.due("amount 10000, each 60 days", house.when(0, 0, 0, 10000, 60), 60);
    Check.due("amount 1, each day", house.when(0, 1, 0, 1, 1), 2);
    Check.due("amount 1, each 60 days", house.when(0, 1, 0, 1, 60), 120);
    Check.due("amount 1, each 59 days", house.when(0, 1, 0, 1, 59), 118);
    Check.sentence("looked at behind the purchase of a day");
    PointHouse rules = Check.houseWith("rule a when day = 0 or day = 7 earn 5;", 1);
    rules.addReward(10, 1, 0);
    Check.due("by the rules of that day", rules.when(0, 0, 0, 1, 7), 7);
    Check.due("by the rules of that day", rules.when(0, 0, 0, 1, 6), -1);
    rules.pass(1);
    Check.due("told from today", rules.when(0, 0, 0, 1, 3), -1);
    rules.buy(0, 0, 1);
    rules.addReward(5, 1, 0);
    Check.due("told from today", rules.when(0, 1, 0, 1, 6), 6);
    Check.teach(rules, "rule a when nth = 4 earn 10;");
    Check.due("of the fourth purchase", rules.when(0, 0, 0, 1, 6), 12);
    Check.teach(rules, "rule a earn 100 each 9;");
    Check.due("of the next period", rules.when(0, 0, 0, 1, 1), 29);
  }

  private static void whenPointsExpire() {
    PointHouse house = plain(1);
    house.addPartner(100, 5);
    house.addReward(20, 1, 0);
    Check.due("10 expire as 10 are bought", house.when(0, 0, 1, 10, 5), -1);
    Check.due("10 expire a day later", house.when(0, 0, 1, 10, 4), 4);
    house.buy(0, 1, 15);
    Check.due("what is there expires, too", house.when(0, 0, 1, 5, 60), 0);
    house.pass(4);
    Check.due("on its last day", house.when(0, 0, 1, 5, 60), 0);
    house.pass(1);
    Check.due("it has expired", house.when(0, 0, 1, 5, 60), -1);
    Check.sentence("and nobody does anything else");
    PointHouse household = plain(2);
    household.addHousehold();
    household.addPartner(100, 5);
    household.addReward(30, 1, 0);
    household.move(0, 0);
    household.move(1, 0);
    household.buy(1, 1, 10);
    Check.due("with those of the household", household.when(0, 0, 0, 10, 4), 4);
    Check.due("with those of the household, which expire", household.when(0, 0, 0, 10, 5), 10);
  }

  private static void whenTiersChange() {
    PointHouse house = plain(1);
    house.addReward(1, 1, 1);
    house.addReward(1, 1, 2);
    Check.due("the tier of today", house.when(0, 0, 0, 500, 60), 0);
    Check.due("the tier of the second purchase", house.when(0, 0, 0, 250, 60), 60);
    Check.due("scores of 90 days: two purchases of 45", house.when(0, 0, 0, 250, 45), 45);
    Check.due("scores of 90 days: no three of 45", house.when(0, 0, 0, 167, 45), -1);
    Check.due("scores of 90 days: three of 44", house.when(0, 0, 0, 167, 44), 88);
    PointHouse falls = plain(1);
    falls.buy(0, 0, 500);
    falls.addReward(501, 1, 1);
    falls.pass(89);
    Check.due("on the day 89", falls.when(0, 0, 0, 1, 60), 0);
    falls.pass(1);
    Check.due("the tier has fallen", falls.when(0, 0, 0, 1, 60), -1);
    PointHouse later = plain(1);
    later.buy(0, 0, 500);
    later.addReward(502, 1, 1);
    later.pass(85);
    Check.due("ahead of the fall", later.when(0, 0, 0, 1, 4), 4);
    Check.due("behind the fall", later.when(0, 0, 0, 1, 5), -1);
  }

  private static void whenWithDebt() {
    PointHouse house = owing(100);
    house.addReward(10, 1, 0);
    Check.due("pays first", house.when(0, 0, 0, 110, 60), 0);
    Check.due("pays first", house.when(0, 0, 0, 109, 60), 60);
    Check.due("pays first", house.when(0, 0, 0, 50, 7), 14);
    house.give(1, 0, 90);
    Check.due("has points, and owes", house.when(0, 0, 0, 99, 60), 60);
    Check.due("has points, and owes nothing more", house.when(0, 0, 0, 100, 60), 0);
    Check.due("owed", house.member(0, 3), 100);
  }

  private static void whenWithAHundred() {
    Check.sentence("(as long as there are fewer than 100 transactions)");
    PointHouse house = plain(2);
    for (int points = 99; points <= 102; points++) {
      house.addReward(points, 1, 0);
    }
    for (int i = 0; i < 98; i++) {
      house.buy(0, 0, 1);
    }
    Check.due("the 99th transaction", house.when(0, 0, 0, 1, 9), 0);
    Check.due("the 100th transaction", house.when(0, 1, 0, 1, 9), 9);
    Check.due("no 101st transaction", house.when(0, 2, 0, 1, 9), -1);
    house.buy(0, 0, 1);
    Check.due("the 100th transaction", house.when(0, 1, 0, 1, 9), 0);
    Check.due("no 101st transaction", house.when(0, 2, 0, 1, 9), -1);
    house.buy(0, 0, 1);
    Check.sentence("(by what is told of rewards; also with 100 transactions)");
    Check.due("with what is there", house.when(0, 1, 0, 1, 9), 0);
    Check.due("no 101st transaction", house.when(0, 2, 0, 10000, 1), -1);
    Check.due("transactions", house.count(6), 100);
  }

  private static void whenChangesNothing() {
    Check.sentence("-1 if not by then (nothing is changed)");
    PointHouse house = plain(3);
    PointHouse twin = plain(3);
    for (PointHouse one : new PointHouse[] {house, twin}) {
      one.addPartner(100, 7);
      one.buy(2, 1, 5);
      one.pass(7);
      one.addReward(20000, 1, 3);
      one.addReward(30, 1, 0);
      one.buy(0, 1, 700);
      one.buy(1, 0, 50);
      one.give(1, 2, 50);
      one.takeBack(2);
      one.take(0, 1);
      one.pass(3);
    }
    Check.due("each of 120 days", house.when(0, 0, 1, 3, 2), -1);
    Check.due("the first day", house.when(0, 0, 1, 10000, 1), 1);
    Check.due("pays a debt", house.when(1, 0, 1, 9, 9), -1);
    for (int i = 0; i < 12; i++) {
      Check.due("digest", house.digest(), twin.digest());
      Check.due("buy", house.buy(i % 3, i % 2, 40), twin.buy(i % 3, i % 2, 40));
      Check.due("pass", house.pass(9), twin.pass(9));
      Check.due("takeBack", Check.answerOf(() -> house.takeBack(4)), Check.answerOf(() -> twin.takeBack(4)));
      Check.due("when", house.when(0, 0, 1, 100, 1 + i), twin.when(0, 0, 1, 100, 1 + i));
    }
    Check.due("digest", house.digest(), twin.digest());
    whenKeepsTheFirstAndTheLast();
    whenGivesNothing();
  }

  /** All lots expire in the days ahead, the first one and the last one too, and all tiers fall in them. */
  private static void whenKeepsTheFirstAndTheLast() {
    PointHouse house = plain(16);
    house.addPartner(100, 9);
    house.addReward(20000, 1, 3);
    house.buy(0, 1, 5);
    for (int i = 0; i < 16; i++) {
      house.buy(i, 1, 500 + i);
      house.takeBack(2 * i + 1);
      house.buy(i, 1, 10 + i);
    }
    house.addReward(26, 9, 0);
    long before = house.digest();
    for (int member = 0; member < 16; member++) {
      Check.due("when of the member " + member, house.when(member, 0, 1, 1, 60), -1);
      Check.due("digest", house.digest(), before);
    }
    Check.due("the tier of the first", house.member(0, 1), 1);
    Check.due("the tier of the last", house.member(15, 1), 1);
    Check.due("the first has too few points", house.affords(0), -1);
    Check.due("the last has just enough", house.affords(15), 1);
    Check.due("all lots expire as they would have", house.pass(9), 5 + 286);
  }

  /** Purchases that would have been made do not count for each, neither now nor when others are made in their place. */
  private static void whenGivesNothing() {
    PointHouse house = Check.houseWith("rule a earn 1; rule b earn 50 each 60;", 1);
    house.addReward(20000, 1, 0);
    Check.due("when", house.when(0, 0, 0, 1, 1), -1);
    Check.due("all is left", house.would(0, 0, 1), 51);
    Check.teach(house, "rule a earn 1 stop; rule b earn 50 each 60;");
    Check.due("buy", house.buy(0, 0, 1), 1);
    Check.teach(house, "rule a earn 1; rule b earn 70 each 60;");
    Check.due("all is left", house.would(0, 0, 1), 61);
  }

  private static void stateOfNothing() {
    Check.sentence("The last line: the balance, a blank, the points owed, a blank, the tier.");
    PointHouse house = plain(2);
    house.buy(1, 0, 600);
    Check.due("state of one who did nothing", house.state(0), 6);
    Check.due("paper", Check.paper(house), "0 0 0\n");
    house.state(1);
    Check.due("paper", Check.paper(house), "0 B +600\n600 0 1\n");
    PointHouse debt = owing(10000);
    debt.state(0);
    Check.due("paper", Check.paper(debt), "0 B +10000 x\n0 G -10000\n0 10000 3\n");
    debt.state(1);
    Check.due("paper", Check.paper(debt), "0 G +9000\n9000 0 0\n");
  }

  private static void stateOfAll() {
    Check.sentence("B + for a purchase, T - for a reward, G - for a gift that was given, and G + for one that was got (with"
        + " the points that were got); behind the points of one that was taken back there is a blank and an x");
    PointHouse house = plain(3);
    house.addReward(7, 9, 0);
    house.addReward(100, 9, 0);
    house.addPartner(10, 9);
    house.buy(0, 0, 300);
    house.buy(0, 1, 9);
    house.pass(9);
    house.take(0, 0);
    house.pass(1);
    house.take(0, 1);
    house.give(0, 1, 10);
    house.give(0, 1, 1);
    house.give(1, 0, 9);
    house.takeBack(3);
    house.buy(0, 0, 1);
    house.takeBack(1);
    String want = "0 B +300\n0 B +0 x\n9 T -7\n10 T -100 x\n10 G -10\n10 G -1\n10 G +8\n10 B +1\n291 0 0\n";
    Check.due("state(0)", house.state(0), want.length());
    Check.due("paper", Check.paper(house), want);
    house.state(1);
    Check.due("paper", Check.paper(house), "10 G +9\n10 G +0\n10 G -9\n0 0 0\n");
    house.state(2);
    Check.due("paper", Check.paper(house), "0 0 0\n");
  }

  private static void stateInThePlace() {
    Check.sentence("Writes a statement on the paper, in the place of what was there");
    PointHouse house = bought(10, 200, 3);
    Check.due("a long one", house.state(0), 32);
    Check.due("a short one", house.state(1), 6);
    Check.due("paper", Check.paper(house), "0 0 0\n");
    Check.due("a long one again", house.state(0), 32);
    Check.due("paper", Check.paper(house), "0 B +10\n0 B +200\n0 B +3\n213 0 0\n");
    Check.noIndex("nobody's", () -> house.state(2));
    Check.due("the paper stays", Check.paper(house), "0 B +10\n0 B +200\n0 B +3\n213 0 0\n");
    house.buy(0, 0, 5);
    house.pass(1);
    Check.due("it stays as it was written", house.count(12), 32);
  }

  private static void placesOnThePaper() {
    Check.sentence("Throws IndexOutOfBoundsException if there is no such place");
    PointHouse house = bought(10);
    for (int index : new int[] {Integer.MIN_VALUE, -1, 0, 1, Integer.MAX_VALUE}) {
      Check.noIndex("an empty paper", () -> house.byteAt(index));
    }
    house.state(0);
    Check.due("the first", house.byteAt(0), 48);
    Check.due("the last", house.byteAt(14), 10);
    Check.noIndex("behind the last", () -> house.byteAt(15));
    house.state(1);
    Check.due("the last", house.byteAt(5), 10);
    Check.noIndex("behind the last of a shorter one", () -> house.byteAt(6));
    Check.noIndex("the last of the longer one", () -> house.byteAt(14));
  }

  private static void breakage() {
    Check.sentence("Returns all points that expired, divided by the points at first of all lots; 0 if there are none.");
    PointHouse house = plain(2);
    house.addPartner(100, 2);
    house.addPartner(10, 2);
    Check.due("no lots", house.breakage(), 0.0);
    house.buy(0, 2, 9);
    Check.due("a purchase without a lot", house.breakage(), 0.0);
    house.buy(0, 1, 10);
    Check.due("nothing expired", house.breakage(), 0.0);
    house.pass(2);
    Check.due("all expired", house.breakage(), 1.0);
    house.buy(0, 0, 20);
    Check.due("a third", house.breakage(), 10.0 / 30.0);
    house.give(0, 1, 20);
    Check.due("with the lot of a gift", house.breakage(), 10.0 / 48.0);
    house.takeBack(2);
    Check.due("behind taking back", house.breakage(), 10.0 / 48.0);
  }

  private static BigInteger next(BigInteger d, long x) {
    return d.multiply(BigInteger.valueOf(31)).add(BigInteger.valueOf(x));
  }

  private static void digest() {
    Check.sentence("d becomes d * 31 + x, which wraps around as a 64-bit integer");
    PointHouse house = new PointHouse();
    BigInteger d = BigInteger.valueOf(643);
    for (int i = 0; i < 13; i++) {
      d = next(d, 0);
    }
    Check.due("digest of a new object, which wraps around", house.digest(), d.longValue());
    Check.due("it is beyond 64 bits", d.bitLength() > 64, true);
    PointHouse full = plain(2);
    full.addPartner(300, 400);
    full.addHousehold();
    full.addReward(20000, 99, 3);
    full.addReward(5, 9, 0);
    full.move(1, 0);
    full.buy(0, 1, 10);
    full.buy(1, 0, 7);
    full.take(1, 1);
    full.give(0, 1, 20);
    full.takeBack(0);
    full.pass(3);
    full.state(0);
    full.feed(1, 2, 3, 4, 5);
    int[] numbers = {3, 1, 2, 1, 2, 2, 4, 3, 20, 20, 0, 20, 25, 100, 365, 300, 400,
        -1, 0, 0, 20, 0, 0, 0, 0, 0,
        0, 0, 20, 0, 7, 0, 1, 0, 2,
        20000, 99, 3, 0, 5, 8, 0, 1,
        0, 0, 1, 30, 0, 1, 0,
        0, 1, 0, 7, 0, 0, 1,
        1, 1, 1, 5, 0, 0, -1,
        2, 0, 1, 20, 0, 0, 2,
        0, 0, 400, 30, 0,
        1, 2, 365, 7, 0,
        1, 18, 400, 18, 0};
    d = BigInteger.valueOf(643);
    for (int x : numbers) {
      d = next(d, x);
    }
    for (char sign : "0 B +30 x\n0 G -20\n0 20 0\n".toCharArray()) {
      d = next(d, sign);
    }
    Check.due("digest", full.digest(), d.longValue());
  }

  private static void lastCalls() {
    Check.sentence("An object is used for at most 512 calls after it has been made");
    PointHouse house = Check.houseWith("rule a earn amount;", 2);
    for (int i = 0; i < 495; i++) {
      house.pass(200);
    }
    Check.due("the day", house.count(0), 99000);
    Check.due("buy", house.buy(0, 0, 10), 10);
    Check.due("lot", house.lot(0, 2), 99365);
    Check.due("state", house.state(0), 19);
  }
}
