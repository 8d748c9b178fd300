/** Promises 13 to 20. */
public final class PointsTest {
  public static void main(String[] args) {
    buy();
    steps();
    owedIsPaid();
    take();
    orderOfLots();
    household();
    give();
    takeBackPurchase();
    takeBackExpired();
    takeBackReward();
    takeBackWhen();
    transactionAndLot();
    hundred();
    full();
    pass();
    count();
    Check.end();
  }

  private static void buy() {
    PointHouse house = Check.houseWith("rule a earn amount/10; rule b when amount > 50 earn 7;", 1);
    Check.due("buy", house.buy(0, 0, 60), 13);
    Check.due("transaction", Check.transaction(house, 0), "[0, 0, 0, 13, 0, 0, 0]");
    Check.due("lot", Check.lot(house, 0), "[0, 13, 365, 13, 0]");
    Check.due("buy for nothing", house.buy(0, 0, 9), 0);
    Check.due("transaction without a lot", Check.transaction(house, 1), "[0, 0, 0, 0, 0, 0, -1]");
    Check.due("lots", house.count(7), 1);
    house.pass(3);
    Check.due("buy", house.buy(0, 0, 10000), 1007);
    Check.due("transaction", Check.transaction(house, 2), "[0, 0, 0, 1007, 3, 0, 1]");
    Check.due("lot", Check.lot(house, 1), "[0, 1007, 368, 1007, 0]");
    Check.noIndex("no such member", () -> house.buy(1, 0, 0));
    Check.noIndex("no such member", () -> house.buy(-1, 0, 1));
    Check.noIndex("no such partner", () -> house.buy(0, 1, 0));
    Check.noIndex("no such partner", () -> house.buy(0, -1, 1));
    Check.noArgument("amount 0", () -> house.buy(0, 0, 0));
    Check.noArgument("amount 10001", () -> house.buy(0, 0, 10001));
    Check.due("nothing changed", house.count(6), 3);
  }

  private static void steps() {
    PointHouse house = Check.houseWith("rule a earn amount; rule b earn 3;", 1);
    house.addPartner(33, 1);
    Check.due("the points of all rules, then the factor", house.would(0, 1, 7), 3);
    Check.due("the tier ahead of the purchase", house.buy(0, 0, 597), 600);
    Check.due("tier 1", house.would(0, 1, 100), 33 * 105 / 100);
    Check.due("each step is cut", house.would(0, 1, 56), 19);
    Check.due("tier 1", house.buy(0, 0, 2000), 2103);
    Check.due("tier 2", house.buy(0, 0, 5000), 5503);
    Check.due("tier 3", house.buy(0, 0, 100), 118);
    PointHouse rich = Check.houseWith("rule a earn 2000*999999; rule b earn 2000*999999;", 1);
    Check.due("at most 1000000", rich.buy(0, 0, 1), 1000000);
    Check.due("at most 1000000", rich.buy(0, 0, 1), 1000000);
    PointHouse exact = Check.houseWith("rule a earn 999999+amount;", 1);
    Check.due("999999 + 1", exact.would(0, 0, 1), 1000000);
    Check.due("999999 + 2", exact.would(0, 0, 2), 1000000);
    exact.addPartner(10, 1);
    Check.due("at most behind the factor", exact.would(0, 1, 10000), 100999);
  }

  private static PointHouse owing(int points) {
    PointHouse house = Check.houseWith("rule a earn amount;", 2);
    house.buy(0, 0, points);
    house.give(0, 1, points);
    Check.due("takeBack", house.takeBack(0), points);
    Check.due("owed", house.member(0, 3), points);
    return house;
  }

  private static void owedIsPaid() {
    PointHouse house = owing(100);
    Check.due("pays a part", house.buy(0, 0, 30), 30);
    Check.due("owed", house.member(0, 3), 70);
    Check.due("no lot", Check.transaction(house, 2), "[0, 0, 0, 30, 0, 0, -1]");
    Check.due("pays all that is left", house.buy(0, 0, 70), 70);
    Check.due("owed", house.member(0, 3), 0);
    Check.due("no lot", house.transaction(3, 6), -1);
    house.give(1, 0, 45);
    Check.due("what paid is owed again, less what there is", house.takeBack(2), 0);
    Check.due("from other lots", house.member(0, 2), 10);
    Check.due("what paid is owed again", house.takeBack(3), 60);
    PointHouse other = owing(100);
    Check.due("pays and has a rest", other.buy(0, 0, 130), 130);
    Check.due("the rest", Check.lot(other, 2), "[0, 30, 365, 30, 0]");
    Check.due("points of the purchase", Check.transaction(other, 2), "[0, 0, 0, 130, 0, 0, 2]");
    Check.due("score", other.member(0, 4), 130);
    Check.due("takes back what was earned", other.takeBack(2), 100);
  }

  private static void take() {
    PointHouse house = Check.houseWith("rule a earn amount;", 2);
    house.addReward(100, 2, 0);
    house.addReward(50, 0, 0);
    house.addReward(50, 5, 1);
    house.buy(0, 0, 99);
    Check.noState("not enough points", () -> house.take(0, 0));
    house.buy(0, 0, 1);
    Check.noState("no stock", () -> house.take(0, 1));
    Check.noState("the tier is less", () -> house.take(0, 2));
    Check.noIndex("no such member", () -> house.take(2, 0));
    Check.noIndex("no such member", () -> house.take(-1, 0));
    Check.noIndex("no such reward", () -> house.take(0, 3));
    Check.noIndex("no such reward", () -> house.take(0, -1));
    Check.due("nothing changed", house.member(0, 2), 100);
    Check.due("take", house.take(0, 0), 2);
    Check.due("balance", house.member(0, 2), 0);
    Check.due("transaction", Check.transaction(house, 2), "[1, 0, 0, 100, 0, 0, -1]");
    Check.due("reward", Check.reward(house, 0), "[100, 1, 0, 1]");
    house.buy(0, 0, 500);
    Check.due("take with the tier", house.take(0, 2), 4);
    house.buy(1, 0, 100);
    house.give(0, 1, 450);
    house.takeBack(3);
    Check.due("owes", house.member(0, 3), 500);
    house.buy(0, 0, 475);
    Check.due("owes", house.member(0, 3), 2);
    house.addReward(1, 9, 0);
    Check.noState("who owes does not take", () -> house.take(0, 3));
    Check.due("the other takes", house.take(1, 0), 8);
    house.addHousehold();
    house.move(0, 0);
    house.move(1, 0);
    Check.noState("who owes does not take from others", () -> house.take(0, 3));
  }

  private static void orderOfLots() {
    PointHouse house = Check.houseWith("rule a earn amount;", 1);
    house.addPartner(100, 10);
    house.addReward(25, 9, 0);
    house.buy(0, 0, 10);
    house.buy(0, 1, 10);
    house.buy(0, 1, 10);
    house.pass(2);
    house.addPartner(100, 8);
    house.buy(0, 2, 10);
    house.take(0, 0);
    Check.due("the latest lot", house.lot(0, 1), 10);
    Check.due("the first one", house.lot(1, 1), 0);
    Check.due("of the same day, the smaller number", house.lot(2, 1), 0);
    Check.due("of the same day, the greater number", house.lot(3, 1), 5);
  }

  private static void household() {
    PointHouse house = Check.houseWith("rule a earn amount;", 4);
    house.addPartner(100, 10);
    house.addPartner(100, 5);
    house.addReward(100, 9, 0);
    house.addReward(1000, 9, 0);
    house.addHousehold();
    house.addHousehold();
    house.buy(0, 0, 30);
    house.buy(1, 0, 30);
    house.buy(2, 1, 20);
    house.buy(3, 2, 200);
    house.buy(1, 1, 40);
    for (int i = 0; i < 4; i++) {
      int member = i;
      Check.noState("without a household", () -> house.take(member == 3 ? 0 : member, 0));
    }
    house.move(0, 0);
    house.move(1, 0);
    house.move(3, 1);
    house.move(2, 1);
    house.take(0, 0);
    Check.due("first the own ones", house.lot(0, 1), 0);
    Check.due("then the others together", house.lot(1, 1), 0);
    Check.due("then the others together", house.lot(4, 1), 0);
    Check.due("not those of another household", house.lot(3, 1), 200);
    house.takeBack(5);
    Check.due("back to the owner", house.lot(0, 1), 30);
    Check.due("back to the others", house.lot(4, 1), 40);
    house.move(2, 0);
    house.move(3, -1);
    house.take(0, 0);
    Check.due("own", house.lot(0, 1), 0);
    Check.due("the others by day, then number", house.lot(2, 1), 0);
    Check.due("the others by day, then number", house.lot(4, 1), 0);
    Check.due("the others by day, then number", house.lot(1, 1), 20);
    Check.noState("not enough in all", () -> house.take(0, 1));
    othersOwe();
  }

  private static void othersOwe() {
    PointHouse house = owing(10);
    house.addHousehold();
    house.move(0, 0);
    house.move(1, 0);
    house.join(0);
    house.addReward(14, 9, 0);
    Check.noState("9 points in all", () -> house.take(2, 0));
    house.buy(1, 0, 5);
    house.give(1, 0, 8);
    Check.due("owed points are not paid by a gift", house.member(0, 3), 10);
    Check.due("balance with owed points", house.member(0, 2), 7);
    house.addReward(13, 9, 0);
    Check.due("whatever the others owe", house.take(2, 1), 4);
    Check.due("balance", house.member(0, 2), 0);
    Check.due("balance", house.member(1, 2), 0);
  }

  private static void give() {
    PointHouse house = Check.houseWith("rule a earn amount;", 3);
    house.addPartner(100, 10);
    house.addPartner(100, 5);
    house.buy(0, 0, 50);
    house.buy(0, 1, 50);
    house.buy(0, 2, 50);
    Check.due("give", house.give(0, 1, 59), 53);
    Check.due("transaction", Check.transaction(house, 3), "[2, 0, 1, 59, 0, 0, 3]");
    Check.due("the earliest day", Check.lot(house, 3), "[1, 53, 5, 53, 0]");
    Check.due("taken", house.lot(2, 1), 0);
    Check.due("taken", house.lot(1, 1), 41);
    Check.due("give", house.give(0, 2, 41), 36);
    Check.due("the earliest day with points", house.lot(4, 2), 10);
    Check.due("give 1", house.give(0, 1, 1), 0);
    Check.due("no lot", Check.transaction(house, 5), "[2, 0, 1, 1, 0, 0, -1]");
    Check.due("give 2", house.give(0, 1, 2), 1);
    Check.due("give all", house.give(0, 1, 47), 42);
    Check.noState("not so many", () -> house.give(0, 1, 1));
    Check.noState("not so many", () -> house.give(2, 0, 37));
    Check.noIndex("no such member", () -> house.give(3, 0, 0));
    Check.noIndex("no such member", () -> house.give(0, 3, 0));
    Check.noIndex("no such member", () -> house.give(-1, -1, 1));
    Check.noArgument("both are the same", () -> house.give(2, 2, 1));
    Check.noArgument("points 0", () -> house.give(2, 0, 0));
    Check.noArgument("points -1", () -> house.give(2, 0, -1));
    Check.due("score of gifts", house.member(1, 4), 0);
    PointHouse owing = owing(10);
    owing.give(1, 0, 9);
    Check.noState("who owes does not give", () -> owing.give(0, 1, 1));
    PointHouse one = owing(1);
    one.buy(1, 0, 10);
    one.give(1, 0, 10);
    one.addReward(1, 1, 0);
    Check.due("balance", one.member(0, 2), 9);
    Check.noState("who owes 1 does not give", () -> one.give(0, 1, 1));
    Check.noState("who owes 1 does not take", () -> one.take(0, 0));
    Check.due("who owes 1 affords nothing", one.affords(0), -1);
  }

  private static void takeBackPurchase() {
    PointHouse house = Check.houseWith("rule a earn amount;", 2);
    house.addPartner(100, 10);
    house.buy(0, 1, 20);
    house.buy(0, 0, 50);
    house.buy(0, 0, 600);
    house.give(0, 1, 60);
    Check.due("takes from its own lot", house.takeBack(2), 0);
    Check.due("its own lot", house.lot(2, 1), 0);
    Check.due("another lot", house.lot(1, 1), 10);
    Check.due("tier stays", house.member(0, 1), 1);
    Check.due("own tier", house.member(0, 5), 0);
    Check.due("back", house.transaction(2, 5), 1);
    Check.due("purchases", house.member(0, 6), 2);
    Check.due("then from others, and owes the rest", house.takeBack(1), 40);
    Check.due("another lot", house.lot(1, 1), 0);
    Check.due("owes more", house.takeBack(0), 60);
    Check.due("owed", house.member(0, 3), 60);
    PointHouse order = Check.houseWith("rule a earn amount;", 2);
    order.addPartner(100, 10);
    order.buy(0, 0, 30);
    order.buy(0, 1, 30);
    order.buy(0, 1, 30);
    order.give(0, 1, 30);
    order.takeBack(1);
    Check.due("from the lot that expires earliest", order.lot(2, 1), 0);
    Check.due("not from the later one", order.lot(0, 1), 30);
  }

  private static void takeBackExpired() {
    PointHouse house = Check.houseWith("rule a earn amount;", 2);
    house.addPartner(100, 10);
    house.buy(0, 1, 100);
    house.buy(0, 0, 100);
    house.give(0, 1, 30);
    Check.due("expired", house.pass(10), 70 + 27);
    Check.due("less what has expired", house.takeBack(0), 0);
    Check.due("from the other lot", house.lot(1, 1), 70);
    Check.due("expired stays", house.lot(0, 4), 70);
  }

  private static void takeBackReward() {
    PointHouse house = Check.houseWith("rule a earn amount;", 1);
    house.addPartner(100, 10);
    house.addReward(150, 1, 0);
    house.buy(0, 1, 100);
    house.buy(0, 0, 100);
    house.take(0, 0);
    house.pass(9);
    Check.due("takeBack", house.takeBack(2), 0);
    Check.due("lot", Check.lot(house, 0), "[0, 100, 10, 100, 0]");
    Check.due("lot", Check.lot(house, 1), "[0, 100, 365, 100, 0]");
    Check.due("reward", Check.reward(house, 0), "[150, 1, 0, 0]");
    house.take(0, 0);
    Check.due("nothing to expire", house.pass(1), 0);
    house.takeBack(3);
    Check.due("expired at once", Check.lot(house, 0), "[0, 0, 10, 100, 100]");
    Check.due("lot", Check.lot(house, 1), "[0, 100, 365, 100, 0]");
    Check.due("expired in all", house.count(10), 100);
    PointHouse debt = Check.houseWith("rule a earn amount;", 2);
    debt.addReward(50, 99, 0);
    debt.buy(0, 0, 100);
    debt.take(0, 0);
    Check.due("stock", debt.reward(0, 1), 98);
    debt.takeBack(0);
    Check.due("owes what was spent", debt.member(0, 3), 50);
    Check.due("a reward taken back pays nothing", debt.takeBack(1), 50);
    Check.due("balance", debt.member(0, 2), 50);
    Check.due("stock", debt.reward(0, 1), 99);
  }

  private static void takeBackWhen() {
    PointHouse house = Check.houseWith("rule a earn amount;", 2);
    house.addReward(1, 9, 0);
    house.buy(0, 0, 10);
    house.take(0, 0);
    house.give(0, 1, 2);
    house.buy(0, 0, 10);
    Check.noState("a gift", () -> house.takeBack(2));
    Check.noIndex("no such transaction", () -> house.takeBack(4));
    Check.noIndex("no such transaction", () -> house.takeBack(-1));
    house.pass(60);
    house.takeBack(0);
    house.takeBack(1);
    Check.noState("taken back already", () -> house.takeBack(0));
    Check.noState("taken back already", () -> house.takeBack(1));
    house.pass(1);
    Check.noState("61 days ago", () -> house.takeBack(3));
    Check.due("nothing changed", house.transaction(3, 5), 0);
  }

  private static void transactionAndLot() {
    PointHouse house = Check.houseWith("rule a earn amount;", 2);
    house.addReward(4, 9, 0);
    house.addReward(5, 9, 0);
    house.pass(2);
    house.buy(1, 0, 10);
    house.take(1, 1);
    house.give(1, 0, 5);
    Check.due("purchase", Check.transaction(house, 0), "[0, 1, 0, 10, 2, 0, 0]");
    Check.due("reward", Check.transaction(house, 1), "[1, 1, 1, 5, 2, 0, -1]");
    Check.due("gift", Check.transaction(house, 2), "[2, 1, 0, 5, 2, 0, 1]");
    house.takeBack(1);
    Check.due("taken back", Check.transaction(house, 1), "[1, 1, 1, 5, 2, 1, -1]");
    Check.due("lot", Check.lot(house, 0), "[1, 5, 367, 10, 0]");
    Check.due("lot", Check.lot(house, 1), "[0, 4, 367, 4, 0]");
    Check.noIndex("transaction(3, 0)", () -> house.transaction(3, 0));
    Check.noIndex("transaction(-1, 0)", () -> house.transaction(-1, 0));
    Check.noIndex("transaction(0, 7)", () -> house.transaction(0, 7));
    Check.noIndex("transaction(0, -1)", () -> house.transaction(0, -1));
    Check.noIndex("lot(2, 0)", () -> house.lot(2, 0));
    Check.noIndex("lot(-1, 0)", () -> house.lot(-1, 0));
    Check.noIndex("lot(0, 5)", () -> house.lot(0, 5));
    Check.noIndex("lot(0, -1)", () -> house.lot(0, -1));
  }

  private static void hundred() {
    PointHouse house = Check.houseWith("rule a earn 20;", 2);
    house.addReward(1, 9, 0);
    for (int i = 0; i < 98; i++) {
      house.buy(0, 0, 1);
    }
    Check.due("the 99th", house.take(0, 0), 98);
    Check.due("the 100th", house.give(0, 1, 10), 9);
    Check.noState("a 101st purchase", () -> house.buy(0, 0, 1));
    Check.noState("a 101st reward", () -> house.take(0, 0));
    Check.noState("a 101st gift", () -> house.give(0, 1, 10));
    Check.noArgument("a 101st purchase of 0", () -> house.buy(0, 0, 0));
    Check.noArgument("a 101st gift to the same", () -> house.give(0, 0, 10));
    Check.noIndex("a 101st reward of nobody", () -> house.take(2, 0));
    Check.due("transactions", house.count(6), 100);
    Check.due("lots", house.count(7), 99);
    Check.due("takes back also then", house.takeBack(97), 0);
    Check.due("affords also then", house.affords(0), 0);
    Check.due("would also then", house.would(0, 0, 1), 20 * 110 / 100);
    Check.due("transactions", house.count(6), 100);
  }

  /** All that has a limit is at it, and each call still answers. */
  private static void full() {
    PointHouse house = Check.houseWith("rule a earn amount;", 16);
    for (int i = 0; i < 10; i++) {
      house.addReward(10 + i, 99, 0);
    }
    for (int i = 0; i < 6; i++) {
      house.addHousehold();
    }
    for (int i = 0; i < 100; i++) {
      house.move(i % 16, 5);
      house.buy(i % 16, 0, 1);
    }
    house.move(3, -1);
    Check.due("balance", house.member(15, 2), 6);
    Check.due("expiring", house.expiring(0, 365), 7);
    Check.due("affords", house.affords(15), 9);
    Check.due("affords", house.affords(3), -1);
    Check.due("spend", house.spend(15), 0);
    Check.due("when", house.when(3, 0, 0, 1, 1), -1);
    Check.due("would", house.would(15, 0, 1), 1);
    Check.due("takeBack", house.takeBack(99), 0);
    Check.due("digest", Check.answerOf(house::digest) instanceof Long, true);
    Check.due("state", house.state(3), 7 * 7 + 2 + 6);
    Check.due("pass", house.pass(200), 0);
    Check.due("pass", house.pass(165), 99);
    Check.due("count", Check.counts(house), "[365, 1, 1, 6, 16, 10, 100, 100, 0, 0, 99, 0, " + house.count(12) + "]");
    Check.due("breakage", house.breakage(), 0.99);
    fullWithAGift();
  }

  private static void fullWithAGift() {
    PointHouse house = Check.houseWith("rule a earn 2 each 196;", 2);
    house.buy(1, 0, 1);
    for (int i = 1; i < 99; i++) {
      house.buy(0, 0, 1);
    }
    house.give(0, 1, 3);
    Check.due("lots", house.count(7), 100);
    Check.due("would", house.would(1, 0, 1), 2);
    Check.due("would", house.would(0, 0, 1), 0);
    Check.due("takes from other lots", house.takeBack(1), 0);
    Check.due("from the first ones", house.lot(2, 1), 0);
    Check.due("would", house.would(0, 0, 1), 2);
  }

  private static void pass() {
    PointHouse house = Check.houseWith("rule a earn amount;", 2);
    house.addPartner(100, 1);
    house.addPartner(100, 30);
    Check.noArgument("pass(0)", () -> house.pass(0));
    Check.noArgument("pass(-1)", () -> house.pass(-1));
    Check.noArgument("pass(201)", () -> house.pass(201));
    house.buy(0, 1, 5);
    house.buy(1, 2, 7);
    house.buy(0, 0, 600);
    Check.due("day", house.count(0), 0);
    Check.due("pass(1)", house.pass(1), 5);
    Check.due("pass(28)", house.pass(28), 0);
    Check.due("pass(1)", house.pass(1), 7);
    Check.due("tier", house.member(0, 1), 1);
    Check.due("pass(200)", house.pass(200), 0);
    Check.due("tier", house.member(0, 1), 0);
    Check.due("pass(200)", house.pass(200), 600);
    Check.due("day", house.count(0), 430);
    PointHouse three = Check.houseWith("rule a earn amount;", 1);
    three.buy(0, 0, 5000);
    Check.passAll(three, 89);
    three.pass(61);
    Check.due("one tier each 30 days", three.member(0, 1), 0);
  }

  private static void count() {
    PointHouse house = Check.houseWith("rule a earn amount; rule b earn 1;", 3);
    house.addPartner(100, 2);
    house.addHousehold();
    house.addReward(5, 5, 0);
    house.addReward(5, 5, 0);
    house.buy(0, 0, 99);
    house.buy(1, 1, 9);
    house.give(0, 2, 50);
    house.takeBack(0);
    house.pass(4);
    house.feed(0, 0, 0, 0, 0);
    house.state(1);
    Check.due("counts", Check.counts(house), "[4, 2, 2, 1, 3, 2, 3, 3, 45, 50, 10, 20, " + "0 B +10\n0 0 0\n".length() + "]");
    Check.noIndex("count(13)", () -> house.count(13));
    Check.noIndex("count(-1)", () -> house.count(-1));
  }
}
