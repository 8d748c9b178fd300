/** Promises 1 and 6 to 12. */
public final class PeopleTest {
  public static void main(String[] args) {
    newObject();
    addPartner();
    addHousehold();
    joinAndMove();
    addReward();
    member();
    tiers();
    Check.end();
  }

  private static void newObject() {
    PointHouse house = new PointHouse();
    Check.due("counts", Check.counts(house), "[0, 0, 0, 0, 0, 0, 0, 0, 0, 0, 0, 0, 0]");
    Check.due("errorAt", house.errorAt(), -1);
    Check.due("breakage", house.breakage(), 0.0);
    Check.noIndex("member(0, 0)", () -> house.member(0, 0));
    Check.noIndex("byteAt(0)", () -> house.byteAt(0));
  }

  private static void addPartner() {
    PointHouse house = new PointHouse();
    Check.noArgument("factor 9", () -> house.addPartner(9, 1));
    Check.noArgument("factor 301", () -> house.addPartner(301, 1));
    Check.noArgument("life 0", () -> house.addPartner(10, 0));
    Check.noArgument("life 401", () -> house.addPartner(10, 401));
    Check.due("partners", house.count(2), 0);
    for (int i = 0; i < 6; i++) {
      Check.due("addPartner", house.addPartner(i % 2 == 0 ? 10 : 300, i % 2 == 0 ? 400 : 1), i);
    }
    Check.noState("a 7th partner", () -> house.addPartner(10, 1));
    Check.noArgument("a 7th partner of factor 9", () -> house.addPartner(9, 1));
    Check.due("partners", house.count(2), 6);
    Check.teach(house, "rule a earn amount;");
    house.join(-1);
    Check.due("factor 10", house.buy(0, 4, 109), 10);
    Check.due("factor 300", house.buy(0, 5, 109), 327);
    Check.due("life 400", house.lot(0, 2), 400);
    Check.due("life 1", house.lot(1, 2), 1);
  }

  private static void addHousehold() {
    PointHouse house = new PointHouse();
    for (int i = 0; i < 6; i++) {
      Check.due("addHousehold", house.addHousehold(), i);
    }
    Check.noState("a 7th household", house::addHousehold);
    Check.due("households", house.count(3), 6);
  }

  private static void joinAndMove() {
    PointHouse house = new PointHouse();
    Check.noIndex("join(0)", () -> house.join(0));
    Check.noIndex("join(-2)", () -> house.join(-2));
    house.addHousehold();
    house.addHousehold();
    Check.due("join(-1)", house.join(-1), 0);
    Check.due("join(1)", house.join(1), 1);
    Check.noIndex("join(2)", () -> house.join(2));
    Check.due("member", Check.member(house, 0), "[-1, 0, 0, 0, 0, 0, 0, 0, 0]");
    Check.due("member", Check.member(house, 1), "[1, 0, 0, 0, 0, 0, 0, 0, 0]");
    Check.due("move", house.move(0, 1), -1);
    Check.due("move", house.move(0, 0), 1);
    Check.due("move", house.move(0, 0), 0);
    Check.due("move", house.move(1, -1), 1);
    Check.due("household", house.member(0, 0), 0);
    Check.due("household", house.member(1, 0), -1);
    Check.noIndex("move(2, 0)", () -> house.move(2, 0));
    Check.noIndex("move(-1, 0)", () -> house.move(-1, 0));
    Check.noIndex("move(0, 2)", () -> house.move(0, 2));
    Check.noIndex("move(0, -2)", () -> house.move(0, -2));
    for (int i = 2; i < 16; i++) {
      Check.due("join", house.join(0), i);
    }
    Check.noState("a 17th member", () -> house.join(-1));
    Check.noIndex("a 17th member of no such household", () -> house.join(2));
    Check.due("members", house.count(4), 16);
  }

  private static void addReward() {
    PointHouse house = new PointHouse();
    Check.noArgument("cost 0", () -> house.addReward(0, 0, 0));
    Check.noArgument("cost 20001", () -> house.addReward(20001, 0, 0));
    Check.noArgument("stock -1", () -> house.addReward(1, -1, 0));
    Check.noArgument("stock 100", () -> house.addReward(1, 100, 0));
    Check.noArgument("tier -1", () -> house.addReward(1, 0, -1));
    Check.noArgument("tier 4", () -> house.addReward(1, 0, 4));
    Check.due("addReward", house.addReward(1, 0, 3), 0);
    Check.due("addReward", house.addReward(20000, 99, 0), 1);
    Check.due("reward", Check.reward(house, 0), "[1, 0, 3, 0]");
    Check.due("reward", Check.reward(house, 1), "[20000, 99, 0, 0]");
    for (int i = 2; i < 10; i++) {
      house.addReward(i, i, 1);
    }
    Check.noState("an 11th reward", () -> house.addReward(1, 1, 1));
    Check.noArgument("an 11th reward of cost 0", () -> house.addReward(0, 1, 1));
    Check.due("rewards", house.count(5), 10);
    Check.noIndex("reward(10, 0)", () -> house.reward(10, 0));
    Check.noIndex("reward(-1, 0)", () -> house.reward(-1, 0));
    Check.noIndex("reward(0, 4)", () -> house.reward(0, 4));
    Check.noIndex("reward(0, -1)", () -> house.reward(0, -1));
    taken();
  }

  private static void taken() {
    PointHouse house = Check.houseWith("rule a earn amount;", 1);
    house.addReward(10, 3, 0);
    house.buy(0, 0, 100);
    house.take(0, 0);
    house.take(0, 0);
    Check.due("taken twice", Check.reward(house, 0), "[10, 1, 0, 2]");
    house.takeBack(1);
    Check.due("taken back once", Check.reward(house, 0), "[10, 2, 0, 1]");
  }

  private static void member() {
    PointHouse house = Check.houseWith("rule a earn amount;", 2);
    house.addPartner(100, 5);
    house.addHousehold();
    house.move(0, 0);
    house.buy(0, 0, 300);
    house.buy(0, 1, 250);
    house.buy(0, 1, 10);
    Check.due("member", Check.member(house, 0), "[0, 1, 560, 0, 560, 1, 3, 0, 3]");
    house.pass(5);
    Check.due("expired", Check.member(house, 0), "[0, 1, 300, 0, 560, 1, 3, 260, 1]");
    house.give(0, 1, 300);
    house.takeBack(0);
    Check.due("owed", Check.member(house, 0), "[0, 1, 0, 300, 260, 0, 2, 260, 0]");
    Check.due("the other", Check.member(house, 1), "[-1, 0, 270, 0, 0, 0, 0, 0, 1]");
    PointHouse one = Check.houseWith("rule a earn 1;", 1);
    one.buy(0, 0, 1);
    Check.due("a lot with 1 point left", one.member(0, 8), 1);
    Check.noIndex("member(2, 0)", () -> house.member(2, 0));
    Check.noIndex("member(-1, 0)", () -> house.member(-1, 0));
    Check.noIndex("member(0, 9)", () -> house.member(0, 9));
    Check.noIndex("member(0, -1)", () -> house.member(0, -1));
  }

  private static void tiers() {
    int[] scores = {499, 500, 1999, 2000, 4999, 5000};
    int[] tiers = {0, 1, 1, 2, 2, 3};
    for (int i = 0; i < scores.length; i++) {
      PointHouse house = Check.houseWith("rule a earn amount;", 1);
      house.buy(0, 0, scores[i]);
      Check.due("score", house.member(0, 4), scores[i]);
      Check.due("tier of score " + scores[i], house.member(0, 1), tiers[i]);
      Check.due("own tier of score " + scores[i], house.member(0, 5), tiers[i]);
    }
    PointHouse house = Check.houseWith("rule a earn amount;", 1);
    house.buy(0, 0, 5000);
    house.pass(89);
    Check.due("89 days behind", house.member(0, 4), 5000);
    Check.due("tier", house.member(0, 1), 3);
    house.pass(1);
    Check.due("90 days behind", house.member(0, 4), 0);
    Check.due("own tier", house.member(0, 5), 0);
    Check.due("tier of day 90", house.member(0, 1), 2);
    house.pass(29);
    Check.due("tier of day 119", house.member(0, 1), 2);
    house.pass(1);
    Check.due("tier of day 120", house.member(0, 1), 1);
    house.buy(0, 0, 500 * 100 / 105 + 1);
    Check.due("tier stays with its own tier", house.member(0, 1), 1);
    house.pass(30);
    Check.due("own tier is not less", house.member(0, 1), 1);
    house.pass(60);
    Check.due("tier of day 210", house.member(0, 1), 0);
  }
}
