/** The edges of taking back and of a day, sentence by sentence. */
public final class EdgesOfTakingBackTest {
  public static void main(String[] args) {
    sixtyDays();
    onlyOnce();
    noGifts();
    purchaseOfNothing();
    ownLotFirst();
    thenOtherLots();
    onlyItsMember();
    missingIsOwedBesides();
    missingBehindAllLots();
    lessWhatExpired();
    whatPaidADebt();
    rewardGoesBackToItsLots();
    rewardBehindAPurchase();
    rewardExpiresAtOnce();
    rewardOfAHousehold();
    rewardPaysNothing();
    stockOfNinetyNine();
    tiersStay();
    lotsExpireOnTheirDay();
    daysOfTiers();
    oneTierLess();
    tierOfTheOwnTier();
    tiersOfAll();
    Check.end();
  }

  private static PointHouse plain(int members) {
    return Check.houseWith("rule a earn amount;", members);
  }

  private static String left(PointHouse house) {
    StringBuilder text = new StringBuilder();
    for (int i = 0; i < house.count(7); i++) {
      text.append(i == 0 ? "" : " ").append(house.lot(i, 1));
    }
    return text.toString();
  }

  private static void sixtyDays() {
    Check.sentence("A purchase or a reward of the 60 days ahead of today, or of today, that was not taken back yet, can be"
        + " taken back.");
    for (int days : new int[] {0, 1, 59, 60, 61, 62, 200}) {
      PointHouse house = plain(1);
      house.addReward(4, 9, 0);
      house.pass(5);
      house.buy(0, 0, 10);
      house.take(0, 0);
      Check.passAll(house, days);
      long before = house.digest();
      if (days <= 60) {
        Check.due("a reward of " + days + " days ago", house.takeBack(1), 0);
        Check.due("a purchase of " + days + " days ago", house.takeBack(0), 0);
        Check.due("balance", house.member(0, 2), 0);
      } else {
        Check.noState("a reward of " + days + " days ago", () -> house.takeBack(1));
        Check.noState("a purchase of " + days + " days ago", () -> house.takeBack(0));
        Check.due("nothing changed", house.digest(), before);
      }
    }
  }

  private static void onlyOnce() {
    Check.sentence("that was not taken back yet");
    PointHouse house = plain(1);
    house.addReward(4, 9, 0);
    house.buy(0, 0, 10);
    house.take(0, 0);
    house.takeBack(0);
    house.takeBack(1);
    Check.due("back", house.transaction(0, 5) + house.transaction(1, 5), 2);
    long before = house.digest();
    Check.noState("a purchase taken back", () -> house.takeBack(0));
    Check.noState("a reward taken back", () -> house.takeBack(1));
    house.pass(61);
    Check.noState("a purchase taken back long ago", () -> house.takeBack(0));
    Check.due("owed", house.member(0, 3), 4);
    Check.due("balance", house.member(0, 2), 4);
    Check.due("something changed by days alone", house.digest() == before, false);
  }

  private static void noGifts() {
    Check.sentence("Throws IllegalStateException if it cannot be taken back");
    PointHouse house = plain(2);
    house.buy(0, 0, 10);
    house.give(0, 1, 4);
    house.give(0, 1, 1);
    long before = house.digest();
    Check.noState("a gift", () -> house.takeBack(1));
    Check.noState("a gift without a lot", () -> house.takeBack(2));
    Check.due("nothing changed", house.digest(), before);
  }

  private static void purchaseOfNothing() {
    PointHouse house = Check.houseWith("rule a earn amount - 1;", 1);
    house.buy(0, 0, 6);
    house.buy(0, 0, 1);
    Check.due("a purchase of 0 points", house.takeBack(1), 0);
    Check.due("back", house.transaction(1, 5), 1);
    Check.due("balance", house.member(0, 2), 5);
    Check.due("purchases", house.member(0, 6), 1);
  }

  private static void ownLotFirst() {
    Check.sentence("They are taken from its own lot as far as there are some");
    PointHouse house = plain(1);
    house.addPartner(100, 9);
    house.buy(0, 1, 10);
    house.buy(0, 0, 20);
    house.buy(0, 1, 30);
    Check.due("takeBack", house.takeBack(1), 0);
    Check.due("its own alone, though others expire earlier", left(house), "10 0 30");
    Check.due("takeBack", house.takeBack(2), 0);
    Check.due("its own alone, though another has a smaller number", left(house), "10 0 0");
    Check.due("expired", house.pass(9), 10);
    Check.due("what was taken has not expired", house.lot(1, 4) + house.lot(2, 4), 0);
  }

  /** Lots of 10 points that expire on the days 365, 20, 10 and 10, and one of 30 on the day 50, of which so many are spent. */
  private static PointHouse spent(int points) {
    PointHouse house = plain(2);
    house.addPartner(100, 20);
    house.addPartner(100, 10);
    house.addPartner(100, 50);
    house.addPartner(100, 1);
    for (int partner : new int[] {0, 1, 2, 2}) {
      house.buy(0, partner, 10);
    }
    house.addReward(40, 9, 0);
    house.take(0, 0);
    house.buy(0, 3, 30);
    house.give(0, 1, points);
    house.takeBack(4);
    Check.due("left", left(house).startsWith("10 10 10 10 " + (30 - points)), true);
    return house;
  }

  private static void thenOtherLots() {
    Check.sentence("then from the other lots of its member");
    int[] points = {1, 2, 10, 11, 20, 21, 30};
    String[] lots = {"10 10 9 10", "10 10 8 10", "10 10 0 10", "10 10 0 9", "10 10 0 0", "10 9 0 0", "10 0 0 0"};
    for (int i = 0; i < points.length; i++) {
      PointHouse house = spent(points[i]);
      Check.due("takeBack", house.takeBack(5), 0);
      Check.due("missing " + points[i], left(house).startsWith(lots[i] + " 0"), true);
      Check.due("balance of the other", house.member(1, 2), points[i] * 9 / 10);
    }
  }

  private static void onlyItsMember() {
    PointHouse house = plain(2);
    house.addHousehold();
    house.move(0, 0);
    house.move(1, 0);
    house.buy(0, 0, 10);
    house.buy(1, 0, 50);
    house.give(0, 1, 10);
    Check.due("not from those of the household", house.takeBack(0), 10);
    Check.due("balance of the other", house.member(1, 2), 59);
  }

  private static void missingIsOwedBesides() {
    Check.sentence("and what is missing then is owed by this one, besides");
    PointHouse house = plain(2);
    house.buy(0, 0, 10);
    house.buy(0, 0, 20);
    house.buy(0, 0, 30);
    house.give(0, 1, 25);
    Check.due("nothing is missing", house.takeBack(2), 0);
    Check.due("balance", house.member(0, 2), 5);
    Check.due("15 are missing", house.takeBack(1), 15);
    Check.due("10 more", house.takeBack(0), 25);
    Check.due("owed", house.member(0, 3), 25);
    Check.due("owed by all", house.count(9), 25);
    PointHouse one = plain(2);
    one.buy(0, 0, 10);
    one.buy(0, 0, 10);
    one.give(0, 1, 10);
    Check.due("just enough", one.takeBack(0), 0);
    Check.due("balance", one.member(0, 2), 0);
    PointHouse missing = plain(2);
    missing.buy(0, 0, 10);
    missing.buy(0, 0, 10);
    missing.give(0, 1, 11);
    Check.due("1 is missing", missing.takeBack(0), 1);
    Check.due("owed", missing.member(0, 3), 1);
  }

  /** The second purchase paid what was owed, so that it has no lot; of the one lot that there is so many points are left. */
  private static void missingBehindAllLots() {
    Check.sentence("and what is missing then is owed by this one, besides");
    for (int left = 0; left <= 12; left++) {
      PointHouse house = plain(1);
      house.buy(0, 0, 12);
      if (left > 0) {
        house.addReward(left, 9, 0);
        house.take(0, 0);
      }
      if (left < 12) {
        house.addReward(12 - left, 9, 0);
        house.take(0, left > 0 ? 1 : 0);
      }
      Check.due("all is missing", house.takeBack(0), 12);
      int second = house.count(6);
      house.buy(0, 0, 10);
      Check.due("paid", house.member(0, 3), 2);
      Check.due("no lot", house.transaction(second, 6), -1);
      if (left > 0) {
        Check.due("the reward back", house.takeBack(1), 2);
      }
      Check.due("balance", house.member(0, 2), left);
      int missing = Math.max(0, 10 - left);
      Check.due("missing with " + left + " left", house.takeBack(second), 2 + missing);
      Check.due("balance", house.member(0, 2), Math.max(0, left - 10));
    }
  }

  private static void lessWhatExpired() {
    Check.sentence("p are the points that were earned, less those of its lot that have expired");
    PointHouse all = plain(1);
    all.addPartner(100, 5);
    all.buy(0, 1, 20);
    all.buy(0, 0, 50);
    all.pass(5);
    Check.due("all expired", all.takeBack(0), 0);
    Check.due("nothing is taken", left(all), "0 50");
    Check.due("they have expired", Check.lot(all, 0), "[0, 0, 5, 20, 20]");
    PointHouse some = plain(2);
    some.addPartner(100, 5);
    some.buy(0, 1, 20);
    some.buy(0, 0, 50);
    some.give(0, 1, 1);
    some.pass(5);
    Check.due("19 expired", some.takeBack(0), 0);
    Check.due("1 is taken", left(some), "0 49");
    PointHouse none = plain(2);
    none.addPartner(100, 5);
    none.buy(0, 1, 20);
    none.give(0, 1, 20);
    none.pass(5);
    Check.due("none of its own expired", none.takeBack(0), 20);
    PointHouse eve = plain(1);
    eve.addPartner(100, 5);
    eve.buy(0, 1, 20);
    eve.pass(4);
    Check.due("a day ahead", eve.takeBack(0), 0);
    Check.due("they do not expire", eve.pass(1), 0);
    PointHouse owes = plain(2);
    owes.addPartner(100, 5);
    owes.buy(0, 1, 20);
    owes.give(0, 1, 3);
    owes.pass(5);
    Check.due("3 of 20 are owed", owes.takeBack(0), 3);
  }

  private static void whatPaidADebt() {
    PointHouse house = plain(2);
    house.buy(0, 0, 100);
    house.give(0, 1, 100);
    house.takeBack(0);
    house.addPartner(100, 5);
    Check.due("pays 100", house.buy(0, 1, 130), 130);
    Check.due("owed", house.member(0, 3), 0);
    house.pass(5);
    Check.due("less the 30 that expired", house.takeBack(2), 100);
    Check.due("pays 60", house.buy(0, 1, 60), 60);
    Check.due("owed", house.member(0, 3), 40);
    Check.due("what paid is owed again", house.takeBack(3), 100);
  }

  private static void rewardGoesBackToItsLots() {
    Check.sentence("each lot gets back what was taken from it");
    PointHouse house = plain(1);
    house.addPartner(100, 10);
    house.addReward(15, 9, 0);
    house.buy(0, 0, 20);
    house.buy(0, 1, 10);
    house.take(0, 0);
    house.take(0, 0);
    Check.due("left", left(house), "0 0");
    house.takeBack(2);
    Check.due("the first", left(house), "5 10");
    house.take(0, 0);
    house.takeBack(3);
    Check.due("the second", left(house), "15 0");
    house.takeBack(4);
    Check.due("the third", left(house), "20 10");
    Check.due("points owed", house.member(0, 3), 0);
    Check.due("reward", Check.reward(house, 0), "[15, 9, 0, 0]");
  }

  private static void rewardBehindAPurchase() {
    PointHouse house = plain(1);
    house.addReward(15, 9, 0);
    house.buy(0, 0, 20);
    house.take(0, 0);
    Check.due("15 are missing", house.takeBack(0), 15);
    Check.due("owes them still", house.takeBack(1), 15);
    Check.due("the lot of a purchase taken back", Check.lot(house, 0), "[0, 15, 365, 20, 0]");
  }

  private static void rewardExpiresAtOnce() {
    Check.sentence("if the day on which it expires is today or earlier, this has expired at once");
    int[] days = {3, 4, 5, 6, 60};
    for (int day : days) {
      PointHouse house = plain(1);
      house.addPartner(100, 5);
      house.addReward(15, 9, 0);
      house.buy(0, 1, 10);
      house.buy(0, 0, 10);
      house.take(0, 0);
      Check.due("nothing is left to expire", house.pass(day), 0);
      boolean gone = day >= 5;
      Check.due("takeBack", house.takeBack(2), 0);
      Check.due("lot on day " + day, Check.lot(house, 0), gone ? "[0, 0, 5, 10, 10]" : "[0, 10, 5, 10, 0]");
      Check.due("the other lot", Check.lot(house, 1), "[0, 10, 365, 10, 0]");
      Check.due("expired in all", house.count(10), gone ? 10 : 0);
      Check.due("expired of the member", house.member(0, 7), gone ? 10 : 0);
      Check.due("balance", house.member(0, 2), gone ? 10 : 20);
      Check.due("expires later", house.pass(10), gone ? 0 : 10);
    }
    PointHouse part = plain(1);
    part.addPartner(100, 5);
    part.addReward(4, 9, 0);
    part.buy(0, 1, 10);
    part.take(0, 0);
    Check.due("the rest expires", part.pass(5), 6);
    part.takeBack(1);
    Check.due("and what was taken, too", Check.lot(part, 0), "[0, 0, 5, 10, 10]");
    Check.due("a purchase of which all expired", part.takeBack(0), 0);
    Check.due("owed", part.member(0, 3), 0);
  }

  private static void rewardOfAHousehold() {
    PointHouse house = plain(3);
    house.addHousehold();
    house.addReward(25, 9, 0);
    for (int i = 0; i < 3; i++) {
      house.move(i, 0);
      house.buy(i, 0, 10);
    }
    house.take(1, 0);
    Check.due("left", left(house), "0 0 5");
    house.move(0, -1);
    house.move(1, -1);
    Check.due("owed by the one who took it", house.takeBack(3), 0);
    Check.due("back to the others, wherever they are", left(house), "10 10 10");
  }

  private static void rewardPaysNothing() {
    Check.sentence("Returns the points that the member owes then.");
    PointHouse house = plain(2);
    house.addReward(15, 9, 0);
    house.buy(1, 0, 50);
    house.buy(0, 0, 20);
    house.take(0, 0);
    house.give(1, 0, 10);
    Check.due("a purchase", house.takeBack(1), 6);
    Check.due("a reward", house.takeBack(2), 6);
    Check.due("balance", house.member(0, 2), 15);
    Check.due("owed", house.member(0, 3), 6);
    Check.due("another member", house.takeBack(0), 10);
  }

  private static void stockOfNinetyNine() {
    Check.sentence("The stock is 1 greater, but at most 99.");
    for (int stock : new int[] {1, 2, 98, 99}) {
      PointHouse house = plain(1);
      house.addReward(1, stock, 0);
      house.buy(0, 0, 10);
      house.take(0, 0);
      Check.due("stock", house.reward(0, 1), stock - 1);
      house.takeBack(1);
      Check.due("reward", Check.reward(house, 0), "[1, " + stock + ", 0, 0]");
      house.take(0, 0);
      Check.due("reward", Check.reward(house, 0), "[1, " + (stock - 1) + ", 0, 1]");
    }
  }

  private static void tiersStay() {
    Check.sentence("Tiers stay as they are.");
    PointHouse house = plain(1);
    house.addReward(100, 9, 3);
    house.buy(0, 0, 5000);
    house.take(0, 0);
    house.takeBack(1);
    Check.due("tier behind a reward", house.member(0, 1), 3);
    house.takeBack(0);
    Check.due("tier behind a purchase", house.member(0, 1), 3);
    Check.due("own tier", house.member(0, 5), 0);
    house.pass(29);
    Check.due("tier of the day 29", house.member(0, 1), 3);
    house.pass(1);
    Check.due("tier of the day 30", house.member(0, 1), 2);
  }

  private static void lotsExpireOnTheirDay() {
    Check.sentence("what is left in each lot that expires on this day has expired");
    PointHouse house = plain(2);
    house.addPartner(100, 1);
    house.addPartner(100, 2);
    house.addPartner(100, 30);
    house.buy(0, 1, 10);
    house.buy(1, 1, 20);
    house.buy(0, 2, 40);
    house.buy(1, 3, 80);
    house.give(0, 1, 3);
    Check.due("left", left(house), "7 20 40 80 2");
    Check.due("the day 1", house.pass(1), 29);
    Check.due("left", left(house), "0 0 40 80 0");
    Check.due("lot", Check.lot(house, 0), "[0, 0, 1, 10, 7]");
    Check.due("lot", Check.lot(house, 4), "[1, 0, 1, 2, 2]");
    Check.due("the day 2", house.pass(1), 40);
    Check.due("27 days", house.pass(27), 0);
    Check.due("the day 30", house.pass(1), 80);
    Check.due("expired of members", house.member(0, 7) * 1000 + house.member(1, 7), 47102);
    Check.due("expired in all", house.count(10), 149);
    Check.sentence("Returns how many points expired in them.");
    PointHouse all = plain(2);
    all.addPartner(100, 1);
    all.addPartner(100, 200);
    all.addPartner(100, 201);
    all.buy(0, 1, 10);
    all.buy(1, 2, 20);
    all.buy(1, 3, 40);
    Check.due("200 days", all.pass(200), 30);
    Check.due("one more", all.pass(1), 40);
  }

  private static PointHouse ofTierThree() {
    PointHouse house = plain(1);
    house.buy(0, 0, 5000);
    house.takeBack(0);
    return house;
  }

  private static void daysOfTiers() {
    Check.sentence("If the day can be divided by 30 then, the tier of each member whose own tier is less becomes 1 less.");
    PointHouse house = ofTierThree();
    for (int day = 0; day <= 125; day++) {
      Check.due("day", house.count(0), day);
      Check.due("tier of the day " + day, house.member(0, 1), Math.max(0, 3 - day / 30));
      house.pass(1);
    }
    PointHouse later = plain(1);
    later.pass(30);
    later.buy(0, 0, 5000);
    later.takeBack(0);
    Check.due("tier of the day 30 itself", later.member(0, 1), 3);
    later.pass(29);
    Check.due("tier of the day 59", later.member(0, 1), 3);
    later.pass(1);
    Check.due("tier of the day 60", later.member(0, 1), 2);
  }

  private static void oneTierLess() {
    int[] days = {29, 30, 59, 60, 89, 90, 119, 120, 200};
    int[] tiers = {3, 2, 2, 1, 1, 0, 0, 0, 0};
    for (int i = 0; i < days.length; i++) {
      PointHouse house = ofTierThree();
      house.pass(days[i]);
      Check.due("tier behind " + days[i] + " days", house.member(0, 1), tiers[i]);
    }
  }

  private static void tierOfTheOwnTier() {
    int[] scores = {5000, 4999, 2000, 1999, 500, 499, 1};
    int[] own = {3, 2, 2, 1, 1, 0, 0};
    for (int i = 0; i < scores.length; i++) {
      PointHouse house = plain(1);
      house.buy(0, 0, scores[i]);
      Check.teach(house, "rule a earn 5000;");
      house.buy(0, 0, 1);
      house.takeBack(1);
      Check.due("tier", house.member(0, 1), 3);
      Check.due("own tier", house.member(0, 5), own[i]);
      house.pass(30);
      Check.due("tier of the day 30, score " + scores[i], house.member(0, 1), Math.max(own[i], 2));
      house.pass(30);
      Check.due("tier of the day 60, score " + scores[i], house.member(0, 1), Math.max(own[i], 1));
      house.pass(30);
      Check.due("tier of the day 90, score " + scores[i], house.member(0, 1), Math.max(own[i], 1) - 1);
    }
    Check.sentence("the 89 days ahead of it");
    for (int day = 0; day <= 2; day++) {
      PointHouse house = plain(1);
      Check.passAll(house, day);
      house.buy(0, 0, 500);
      Check.passAll(house, 90 - day);
      Check.due("tier of the day 90, bought on " + day, house.member(0, 1), day == 0 ? 0 : 1);
      house.pass(30);
      Check.due("tier of the day 120", house.member(0, 1), 0);
    }
  }

  private static void tiersOfAll() {
    PointHouse house = plain(16);
    for (int i = 0; i < 16; i++) {
      house.buy(i, 0, i % 2 == 0 ? 600 : 5000);
    }
    for (int i = 0; i < 16; i += 4) {
      house.takeBack(i);
    }
    house.pass(30);
    for (int i = 0; i < 16; i++) {
      Check.due("tier of the member " + i, house.member(i, 1), i % 4 == 0 ? 0 : i % 2 == 0 ? 1 : 3);
    }
    house.pass(60);
    for (int i = 0; i < 16; i++) {
      Check.due("tier of the member " + i, house.member(i, 1), i % 2 == 0 ? 0 : 2);
    }
  }
}
