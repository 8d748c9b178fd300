/** Promises 26 to 29. */
public final class StatementTest {
  public static void main(String[] args) {
    state();
    byteAt();
    breakage();
    digest();
    longest();
    Check.end();
  }

  private static PointHouse busy() {
    PointHouse house = Check.houseWith("rule a earn amount;", 3);
    house.addPartner(100, 5);
    house.addReward(40, 3, 0);
    house.buy(0, 0, 600);
    house.pass(12);
    house.buy(0, 1, 7);
    house.take(0, 0);
    house.take(0, 0);
    house.give(0, 1, 19);
    house.give(2 - 1, 0, 1);
    house.takeBack(3);
    house.takeBack(1);
    return house;
  }

  private static void state() {
    PointHouse house = busy();
    String want = "0 B +600\n12 B +7 x\n12 T -40\n12 T -40 x\n12 G -19\n12 G +0\n541 0 1\n";
    Check.due("state(0)", house.state(0), want.length());
    Check.due("paper", Check.paper(house), want);
    Check.due("bytes of the paper", house.count(12), want.length());
    want = "12 G +17\n12 G -1\n16 0 0\n";
    Check.due("state(1)", house.state(1), want.length());
    Check.due("in the place of what was there", Check.paper(house), want);
    Check.due("state(2)", house.state(2), 6);
    Check.due("paper", Check.paper(house), "0 0 0\n");
    house.buy(2, 0, 100);
    house.give(2, 1, 100);
    house.takeBack(6);
    Check.due("the paper stays", Check.paper(house), "0 0 0\n");
    house.state(2);
    Check.due("owed", Check.paper(house), "12 B +100 x\n12 G -100\n0 100 0\n");
    Check.noIndex("no such member", () -> house.state(3));
    Check.noIndex("no such member", () -> house.state(-1));
    Check.due("the paper stays", house.count(12), 30);
  }

  private static void byteAt() {
    PointHouse house = busy();
    Check.noIndex("an empty paper", () -> house.byteAt(0));
    house.state(1);
    Check.due("byteAt(0)", house.byteAt(0), (int) '1');
    Check.due("byteAt(2)", house.byteAt(2), 32);
    Check.due("byteAt(8)", house.byteAt(8), 10);
    Check.due("the last byte", house.byteAt(house.count(12) - 1), 10);
    Check.noIndex("behind the last byte", () -> house.byteAt(house.count(12)));
    Check.noIndex("byteAt(-1)", () -> house.byteAt(-1));
    house.state(2);
    Check.noIndex("behind a shorter paper", () -> house.byteAt(6));
  }

  private static void breakage() {
    PointHouse house = Check.houseWith("rule a earn amount - 1;", 2);
    house.addPartner(100, 5);
    house.buy(0, 0, 1);
    Check.due("no lots", house.breakage(), 0.0);
    house.buy(0, 1, 11);
    house.buy(0, 0, 21);
    Check.due("nothing expired", house.breakage(), 0.0);
    house.give(0, 1, 4);
    house.pass(5);
    Check.due("9 of 33", house.breakage(), 9.0 / 33.0);
    Check.passAll(house, 360);
    Check.due("29 of 33", house.breakage(), 29.0 / 33.0);
  }

  private static void digest() {
    PointHouse house = new PointHouse();
    long d = 643;
    for (int i = 0; i < 13; i++) {
      d = d * 31;
    }
    Check.due("digest of a new object", house.digest(), d);
    PointHouse full = busy();
    full.state(1);
    String numbers = Check.counts(full) + "[100, 365][100, 5]" + Check.member(full, 0) + Check.member(full, 1)
        + Check.member(full, 2) + Check.reward(full, 0);
    for (int i = 0; i < full.count(6); i++) {
      numbers += Check.transaction(full, i);
    }
    for (int i = 0; i < full.count(7); i++) {
      numbers += Check.lot(full, i);
    }
    for (int i = 0; i < full.count(12); i++) {
      numbers += "[" + full.byteAt(i) + "]";
    }
    d = 643;
    for (String number : numbers.substring(1, numbers.length() - 1).split("\\]\\[|, ")) {
      d = d * 31 + Integer.parseInt(number);
    }
    Check.due("digest", full.digest(), d);
    full.feed(0, 0, 0, 0, 0);
    Check.due("digest with a tape", full.digest() == d, false);
  }

  /** The longest lines that 512 calls can bring. */
  private static void longest() {
    PointHouse house = Check.houseWith("rule a earn 999999;", 2);
    house.addPartner(300, 400);
    Check.passAll(house, 60000);
    StringBuilder want = new StringBuilder();
    for (int i = 0; i < 50; i++) {
      house.buy(0, 1, 10000);
      house.takeBack(2 * i);
      Check.due("buy", house.buy(0, 1, 10000), 1000000);
      want.append("60000 B +1000000 x\n60000 B +1000000\n");
    }
    want.append("50000000 0 3\n");
    house.state(0);
    Check.due("paper", Check.paper(house), want.toString());
  }
}
