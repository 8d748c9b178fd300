/** Promises 21 to 25. */
public final class AheadTest {
  public static void main(String[] args) {
    would();
    expiring();
    affords();
    spend();
    when();
    whenIsLimited();
    whenChangesNothing();
    Check.end();
  }

  private static void would() {
    PointHouse house = Check.houseWith("rule a earn amount*nth each 50;", 1);
    long before = house.digest();
    Check.due("would", house.would(0, 0, 20), 20);
    Check.due("would", house.would(0, 0, 60), 50);
    Check.due("nothing is changed", house.digest(), before);
    Check.due("buy", house.buy(0, 0, 20), 20);
    Check.due("would", house.would(0, 0, 20), 30);
    Check.due("would", house.would(0, 0, 10), 20);
    Check.noIndex("no such member", () -> house.would(1, 0, 0));
    Check.noIndex("no such partner", () -> house.would(0, 1, 0));
    Check.noIndex("no such member", () -> house.would(-1, 0, 1));
    Check.noIndex("no such partner", () -> house.would(0, -1, 1));
    Check.noArgument("amount 0", () -> house.would(0, 0, 0));
    Check.noArgument("amount 10001", () -> house.would(0, 0, 10001));
    Check.due("amount 10000", house.would(0, 0, 10000), 30);
  }

  private static void expiring() {
    PointHouse house = Check.houseWith("rule a earn amount;", 2);
    house.addPartner(100, 10);
    house.addPartner(100, 400);
    house.buy(0, 1, 5);
    house.buy(0, 0, 7);
    house.buy(0, 2, 11);
    house.buy(1, 1, 13);
    Check.due("in 0 days", house.expiring(0, 0), 0);
    Check.due("in 9 days", house.expiring(0, 9), 0);
    Check.due("in 10 days", house.expiring(0, 10), 5);
    Check.due("in 364 days", house.expiring(0, 364), 5);
    Check.due("in 365 days", house.expiring(0, 365), 12);
    Check.due("in 400 days", house.expiring(0, 400), 23);
    house.pass(9);
    Check.due("in 0 days", house.expiring(0, 0), 0);
    Check.due("in 1 day", house.expiring(0, 1), 5);
    house.give(0, 1, 2);
    Check.due("without what was taken", house.expiring(0, 1), 3);
    house.pass(1);
    Check.due("without what has expired", house.expiring(0, 400), 18);
    Check.noIndex("no such member", () -> house.expiring(2, 401));
    Check.noIndex("no such member", () -> house.expiring(-1, 0));
    Check.noArgument("days -1", () -> house.expiring(0, -1));
    Check.noArgument("days 401", () -> house.expiring(0, 401));
  }

  private static void affords() {
    PointHouse house = Check.houseWith("rule a earn amount;", 2);
    Check.due("no rewards", house.affords(0), -1);
    house.addReward(10, 5, 0);
    house.addReward(30, 1, 0);
    house.addReward(30, 5, 0);
    house.addReward(40, 0, 0);
    house.addReward(41, 5, 1);
    house.addReward(100, 5, 0);
    Check.due("no points", house.affords(0), -1);
    house.buy(0, 0, 29);
    Check.due("29 points", house.affords(0), 0);
    house.buy(0, 0, 61);
    Check.due("of several the smallest number", house.affords(0), 1);
    house.take(0, 1);
    Check.due("what is in stock", house.affords(0), 2);
    house.addHousehold();
    house.move(0, 0);
    house.move(1, 0);
    house.buy(1, 0, 40);
    Check.due("with the household", house.affords(0), 5);
    Check.due("with the household", house.affords(1), 5);
    house.give(0, 1, 60);
    house.takeBack(0);
    Check.due("who owes affords nothing", house.affords(0), -1);
    Check.noIndex("no such member", () -> house.affords(2));
    Check.noIndex("no such member", () -> house.affords(-1));
  }

  private static void spend() {
    PointHouse house = Check.houseWith("rule a earn amount;", 2);
    Check.due("no rewards", house.spend(0), 0);
    house.addReward(60, 5, 0);
    house.addReward(45, 5, 0);
    house.addReward(40, 5, 0);
    house.addReward(7, 0, 0);
    house.addReward(9, 5, 1);
    Check.due("no points", house.spend(0), 0);
    house.buy(0, 0, 39);
    Check.due("39 points", house.spend(0), 0);
    house.buy(0, 0, 55);
    Check.due("94 points", house.spend(0), 85);
    house.addHousehold();
    house.move(0, 0);
    house.move(1, 0);
    house.buy(1, 0, 100);
    Check.due("only the own balance", house.spend(0), 85);
    Check.due("100 points", house.spend(1), 100);
    house.buy(1, 0, 99);
    Check.due("each at most once", house.spend(1), 145);
    house.buy(1, 0, 301);
    Check.due("with the tier", house.spend(1), 154);
    house.give(0, 1, 44);
    house.takeBack(1);
    Check.due("owes", house.member(0, 3), 5);
    house.give(1, 0, 50);
    Check.due("also if this one owes", house.spend(0), 45);
    Check.noIndex("no such member", () -> house.spend(2));
    Check.noIndex("no such member", () -> house.spend(-1));
    PointHouse ten = Check.houseWith("rule a earn amount;", 1);
    int[] costs = {1, 2, 4, 8, 16, 32, 64, 128, 256, 512};
    for (int cost : costs) {
      ten.addReward(cost, 1, 0);
    }
    ten.buy(0, 0, 777);
    Check.due("all ten", ten.spend(0), 777);
    ten.buy(0, 0, 777);
    Check.due("all ten", ten.spend(0), 1023);
  }

  private static void when() {
    PointHouse house = Check.houseWith("rule a earn amount;", 2);
    house.addPartner(100, 10);
    house.addReward(100, 5, 0);
    house.addReward(10, 5, 2);
    house.addReward(10, 0, 0);
    Check.due("at once", house.when(0, 0, 0, 100, 60), 0);
    Check.due("each day", house.when(0, 0, 0, 10, 1), 9);
    Check.due("each 7 days", house.when(0, 0, 0, 30, 7), 21);
    Check.due("each 60 days, on the last", house.when(0, 0, 0, 34, 60), 120);
    Check.due("each 60 days, too late", house.when(0, 0, 0, 33, 60), -1);
    Check.due("on the day 121 it is too late", house.when(0, 0, 0, 9, 11), -1);
    Check.due("each 10 days", house.when(0, 0, 0, 9, 10), 110);
    Check.due("points expire in between", house.when(0, 0, 1, 30, 7), -1);
    Check.due("points expire as others are bought", house.when(0, 0, 1, 50, 10), -1);
    Check.due("points expire later than others are bought", house.when(0, 0, 1, 50, 9), 9);
    Check.due("the tier, which the scores of 90 days bring", house.when(0, 1, 0, 667, 40), 80);
    Check.due("the tier is reached too seldom", house.when(0, 1, 0, 300, 30), -1);
    Check.due("no stock", house.when(0, 2, 0, 100, 1), -1);
    house.buy(1, 1, 100);
    house.pass(9);
    Check.due("today, with what expires tomorrow", house.when(1, 0, 0, 1, 60), 0);
    owing();
    Check.noIndex("no such member", () -> house.when(2, 0, 0, 0, 0));
    Check.noIndex("no such member", () -> house.when(-1, 0, 0, 1, 1));
    Check.noIndex("no such reward", () -> house.when(0, 3, 0, 0, 0));
    Check.noIndex("no such reward", () -> house.when(0, -1, 0, 1, 1));
    Check.noIndex("no such partner", () -> house.when(0, 0, 2, 0, 0));
    Check.noIndex("no such partner", () -> house.when(0, 0, -1, 1, 1));
    Check.noArgument("amount 0", () -> house.when(0, 0, 0, 0, 1));
    Check.noArgument("amount 10001", () -> house.when(0, 0, 0, 10001, 1));
    Check.noArgument("every 0", () -> house.when(0, 0, 0, 1, 0));
    Check.noArgument("every 61", () -> house.when(0, 0, 0, 1, 61));
  }

  private static void owing() {
    PointHouse house = Check.houseWith("rule a earn amount;", 2);
    house.addReward(10, 5, 0);
    house.addHousehold();
    house.move(0, 0);
    house.move(1, 0);
    house.buy(0, 0, 100);
    house.give(0, 1, 100);
    house.takeBack(0);
    Check.due("owed is paid first, the household counts", house.when(0, 0, 0, 50, 5), 5);
  }

  private static void whenIsLimited() {
    PointHouse house = Check.houseWith("rule a earn 1;", 1);
    house.addReward(99, 5, 0);
    house.addReward(100, 5, 0);
    house.addReward(101, 5, 0);
    for (int i = 0; i < 90; i++) {
      house.buy(0, 0, 1);
    }
    Check.due("fewer than 100 transactions", house.when(0, 0, 0, 1, 2), 16);
    Check.due("the 100th transaction", house.when(0, 1, 0, 1, 2), 18);
    Check.due("no 101st transaction", house.when(0, 2, 0, 1, 2), -1);
    for (int i = 0; i < 10; i++) {
      house.buy(0, 0, 1);
    }
    Check.due("also with 100 transactions", house.when(0, 1, 0, 1, 2), 0);
    Check.due("also with 100 transactions", house.when(0, 2, 0, 1, 2), -1);
  }

  private static void whenChangesNothing() {
    PointHouse house = Check.houseWith("rule a earn amount each 700; rule b when nth = 4 earn 9;", 3);
    house.addPartner(150, 20);
    house.addReward(10000, 5, 0);
    house.buy(1, 1, 800);
    house.buy(0, 1, 300);
    house.give(0, 2, 300);
    house.takeBack(1);
    house.buy(2, 1, 10);
    house.pass(25);
    house.state(0);
    String twin = house.digest() + Check.member(house, 0) + Check.member(house, 1);
    Check.due("when", house.when(0, 0, 1, 500, 3), -1);
    Check.due("nothing is changed", house.digest() + Check.member(house, 0) + Check.member(house, 1), twin);
    Check.teach(house, "rule a earn 10 each 719;");
    Check.due("when", house.when(1, 0, 0, 1, 1), -1);
    Check.due("what would have been given does not count", house.would(1, 0, 1), 10 * 105 / 100);
    Check.teach(house, "rule a earn amount each 700; rule b when nth = 4 earn 9;");
    Check.due("buy behind it", house.buy(0, 1, 500), 750);
    Check.due("a lot behind it", Check.lot(house, house.count(7) - 1), "[0, 450, 45, 450, 0]");
    Check.teach(house, "rule a when nth > 9 earn 1; rule b earn 50 each 60;");
    Check.due("what was given behind it", house.buy(1, 0, 1), 52);
    Check.teach(house, "rule a earn 100 each 705; rule b earn 50 each 60;");
    Check.due("what was given behind it counts", house.would(1, 0, 1), 5 * 105 / 100 + 10 * 105 / 100);
    Check.due("expired behind it", house.pass(20), 450);
  }
}
