/** The edges of what rules reckon and give, and of the facts that they look at, sentence by sentence. */
public final class EdgesOfRulesTest {
  private static final String MOST = "(65536*32767+65535)";
  private static final String LEAST = "(0-65536*32768)";

  public static void main(String[] args) {
    wrapping();
    cutting();
    dividing();
    comparing();
    binding();
    bothSides();
    rulesInTheirOrder();
    earnsAtLeastNothing();
    mostOfARule();
    eachOfARule();
    eachNotBelowNothing();
    eachWithoutWrapping();
    eachByMembers();
    eachByPeriods();
    eachByPlaces();
    stopOfARule();
    amountAndPartner();
    tierAhead();
    tierOfTheMember();
    days();
    balanceAhead();
    nth();
    members();
    owedAhead();
    Check.end();
  }

  private static void holds(String test, boolean want) {
    PointHouse house = Check.houseWith("rule a when " + test + " earn 1;", 1);
    Check.due("when " + test, house.would(0, 0, 100), want ? 1 : 0);
  }

  private static void same(String sum, String other) {
    holds(sum + " = " + other, true);
    holds("not " + sum + " = " + other, false);
  }

  /** What a first purchase of this amount, at a partner of factor 100, would bring by these rules. */
  private static void brings(String text, int amount, int want) {
    PointHouse house = Check.houseWith(text, 1);
    Check.due(text + " for " + amount, house.would(0, 0, amount), want);
    Check.due(text + " for " + amount, house.buy(0, 0, amount), want);
  }

  private static void wrapping() {
    Check.sentence("sums, differences and products of the language wrap around");
    same(MOST + "+1", LEAST);
    same("1+" + MOST, LEAST);
    same(MOST + "-1+1", MOST);
    same(MOST + "+" + MOST, "-2");
    same(LEAST + "+" + LEAST, "0");
    same(LEAST + "+-1", MOST);
    same(LEAST + "-1", MOST);
    same(LEAST + "+1-1", LEAST);
    same("0-" + LEAST, LEAST);
    same("-" + LEAST, LEAST);
    same("-" + MOST, LEAST + "+1");
    same(MOST + "-" + LEAST, "-1");
    same(LEAST + "-" + MOST, "1");
    same(MOST + "--1", LEAST);
    same("65536*65536", "0");
    same("65536*65536+7", "7");
    same("65535*65537", "-1");
    same("65536*32768", LEAST);
    same("46340*46340", "2147*999999+397747");
    same(MOST + "*2", "-2");
    same(MOST + "*" + MOST, "1");
    same(LEAST + "*-1", LEAST);
    same("-1*" + LEAST, LEAST);
    same(LEAST + "*" + LEAST, "0");
    holds("46341*46341 < 0", true);
    holds("46340*46340 > 0", true);
    brings("rule a earn " + MOST + "/2000;", 1, 1000000);
    brings("rule a earn " + MOST + "/2200;", 1, 976128);
    brings("rule a earn " + MOST + "+1; rule b earn 3;", 1, 3);
    brings("rule a earn " + LEAST + "; rule b earn 3;", 1, 3);
    brings("rule a earn " + LEAST + "-1; rule b earn 3;", 1, 1000000);
  }

  private static void cutting() {
    Check.sentence("/ is cut towards 0");
    same("7/2", "3");
    same("-7/2", "-3");
    same("7/-2", "-3");
    same("-7/-2", "3");
    same("1/2", "0");
    same("-1/2", "0");
    same("1/-2", "0");
    same("2/2", "1");
    same("-2/2", "-1");
    same("999998/999999", "0");
    same("-999999/999999", "-1");
    same("0/5", "0");
    same("5/1", "5");
    same("5/-1", "-5");
    same("100/7/2", "7");
    same("7/2*2", "6");
  }

  private static void dividing() {
    Check.sentence("a division by 0 gives 0, and -2147483648 / -1 gives -2147483648");
    same("7/0", "0");
    same("-7/0", "0");
    same("0/0", "0");
    same(MOST + "/0", "0");
    same(LEAST + "/0", "0");
    same("9+7/(3-3)", "9");
    same("7/(65536*65536)", "0");
    same("7/0/0", "0");
    same("7/(1/2)", "0");
    same("(7/0+1)*5", "5");
    same(LEAST + "/-1", LEAST);
    same(LEAST + "/-1/-1", LEAST);
    same(LEAST + "/1", LEAST);
    same("(" + LEAST + "+1)/-1", MOST);
    same(MOST + "/-1", LEAST + "+1");
    same(LEAST + "/-2", "65536*16384");
    same(LEAST + "/" + LEAST, "1");
    same(MOST + "/" + LEAST, "0");
    brings("rule a earn 5/0; rule b earn 2 most 7/0; rule c earn 4;", 1, 4);
  }

  private static void comparing() {
    Check.sentence("sum ( \"<\" | \">\" | \"=\" | \"<=\" | \">=\" ) sum");
    String[] rising = {LEAST, LEAST + "+1", "-1", "0", "1", MOST + "-1", MOST};
    for (int i = 0; i < rising.length; i++) {
      for (int k = 0; k < rising.length; k++) {
        holds(rising[i] + "<" + rising[k], i < k);
        holds(rising[i] + ">" + rising[k], i > k);
        holds(rising[i] + "=" + rising[k], i == k);
        holds(rising[i] + "<=" + rising[k], i <= k);
        holds(rising[i] + ">=" + rising[k], i >= k);
        holds("not " + rising[i] + "<" + rising[k], i >= k);
        holds("not " + rising[i] + ">" + rising[k], i <= k);
        holds("not " + rising[i] + "<=" + rising[k], i > k);
        holds("not " + rising[i] + ">=" + rising[k], i < k);
        same("min(" + rising[i] + "," + rising[k] + ")", rising[Math.min(i, k)]);
        same("max(" + rising[i] + "," + rising[k] + ")", rising[Math.max(i, k)]);
      }
    }
  }

  private static void binding() {
    Check.sentence("and binds more than or, not more than and");
    String[] told = {"1=2", "1=1"};
    for (int i = 0; i < 8; i++) {
      boolean a = (i & 1) != 0;
      boolean b = (i & 2) != 0;
      boolean c = (i & 4) != 0;
      String x = told[i & 1];
      String y = told[i >> 1 & 1];
      String z = told[i >> 2];
      holds(x + " or " + y + " and " + z, a || b && c);
      holds(x + " and " + y + " or " + z, a && b || c);
      holds("[" + x + " or " + y + "] and " + z, (a || b) && c);
      holds(x + " and [" + y + " or " + z + "]", a && (b || c));
      holds("not " + x + " and " + y, !a && b);
      holds("not " + x + " or " + y, !a || b);
      holds("not [" + x + " and " + y + "]", !(a && b));
      holds("not [" + x + " or " + y + "] or " + z, !(a || b) || c);
      holds("not not " + x + " and not " + y, a && !b);
      holds(x + " and " + y + " and " + z, a && b && c);
      holds(x + " or " + y + " or " + z, a || b || c);
    }
    for (String sign : new String[] {"<", ">", "=", "<=", ">="}) {
      String one = sign.startsWith(">") ? "2" + sign + "1" : sign.equals("<") ? "1<2" : "2" + sign + "2";
      holds(one + " and 1=1", true);
      holds("1=1 and " + one, true);
      holds(one + " and " + one, true);
      holds("not [" + one + " and 1=1]", false);
      holds("not [1=2 or " + one + "]", false);
    }
    Check.sentence("sum = product { ( \"+\" | \"-\" ) product }");
    same("10-4-3", "3");
    same("2+3*4", "14");
    same("2*3+4", "10");
    same("-2*3", "-6");
    same("-(2+3)", "-5");
    same("-2+3", "1");
  }

  private static void bothSides() {
    Check.sentence("Both sides of and and or are reckoned");
    holds("1=2 and 1/0=0", false);
    holds("1=1 or 1/0=0", true);
    holds("1=1 or " + LEAST + "/-1=0", true);
    holds("1/0=1 and 1=1", false);
  }

  private static void rulesInTheirOrder() {
    Check.sentence("A purchase goes through the rules in their order. A rule counts, if it has no test, or its test holds.");
    brings("", 1, 0);
    brings("rule a earn 1;", 1, 1);
    brings("rule a when amount > 9 earn 1; rule b when amount < 9 earn 2; rule c earn 4;", 9, 4);
    brings("rule a when amount > 9 earn 1; rule b when amount < 9 earn 2; rule c earn 4;", 10, 5);
    brings("rule a when amount > 9 earn 1; rule b when amount < 9 earn 2; rule c earn 4;", 8, 6);
    StringBuilder twelve = new StringBuilder();
    for (int i = 0; i < 12; i++) {
      twelve.append("rule n").append(i).append(" earn ").append(1 << i).append(";");
    }
    brings(twelve.toString(), 1, 4095);
    brings(twelve.toString().replace("1024;", "1024 stop;"), 1, 2047);
  }

  private static void earnsAtLeastNothing() {
    Check.sentence("One that counts gives what stands behind earn, but at least 0");
    brings("rule a earn amount-5; rule b earn 10;", 6, 11);
    brings("rule a earn amount-5; rule b earn 10;", 5, 10);
    brings("rule a earn amount-5; rule b earn 10;", 4, 10);
    brings("rule a earn -amount;", 10000, 0);
    brings("rule a earn 0;", 1, 0);
  }

  private static void mostOfARule() {
    Check.sentence("with most at most what stands behind it (at least 0, too)");
    brings("rule a earn amount most 5;", 4, 4);
    brings("rule a earn amount most 5;", 5, 5);
    brings("rule a earn amount most 5;", 6, 5);
    brings("rule a earn amount most 1; rule b earn 10;", 6, 11);
    brings("rule a earn amount most 0; rule b earn 10;", 6, 10);
    brings("rule a earn amount most -1; rule b earn 10;", 6, 10);
    brings("rule a earn amount most " + LEAST + "; rule b earn 10;", 6, 10);
    brings("rule a earn -5 most -1; rule b earn 10;", 6, 10);
    brings("rule a earn -5 most 3; rule b earn 10;", 6, 10);
    brings("rule a earn amount most " + MOST + ";", 6, 6);
  }

  private static PointHouse bought(String text, int... amounts) {
    PointHouse house = Check.houseWith(text, 2);
    for (int amount : amounts) {
      house.buy(0, 0, amount);
    }
    return house;
  }

  private static void eachOfARule() {
    Check.sentence("with each at most so many points, less all those that the rule at this place has given");
    brings("rule a earn amount each 10;", 9, 9);
    brings("rule a earn amount each 10;", 10, 10);
    brings("rule a earn amount each 10;", 11, 10);
    brings("rule a earn amount each 0; rule b earn 3;", 11, 3);
    brings("rule a earn 1000*amount each 999999;", 1000, 999999);
    brings("rule a earn amount most 4 each 10;", 11, 4);
    brings("rule a earn amount most 10 each 4;", 11, 4);
    Check.due("1 less than is left", bought("rule a earn amount each 10;", 4).would(0, 0, 5), 5);
    Check.due("what is left", bought("rule a earn amount each 10;", 4).would(0, 0, 6), 6);
    Check.due("1 more than is left", bought("rule a earn amount each 10;", 4).would(0, 0, 7), 6);
    Check.due("1 is left", bought("rule a earn amount each 10;", 4, 5).would(0, 0, 7), 1);
    Check.due("nothing is left", bought("rule a earn amount each 10;", 4, 6).would(0, 0, 7), 0);
    Check.due("less was given than earned", bought("rule a earn amount each 10; rule b earn 1;", 4, 9).would(0, 0, 7), 1);
    Check.due("given ahead of the factor", givenAtAFactor(), 3);
    Check.due("below nothing was given", bought("rule a earn amount-6 each 3;", 1, 2).would(0, 0, 9), 3);
  }

  private static int givenAtAFactor() {
    PointHouse house = Check.houseWith("rule a earn amount each 10;", 1);
    house.addPartner(10, 5);
    Check.due("7 points times 10 of 100", house.buy(0, 1, 7), 0);
    return house.would(0, 0, 9);
  }

  private static void eachNotBelowNothing() {
    Check.sentence("but not less than 0");
    PointHouse house = bought("rule a earn amount; rule b earn 2;", 10);
    Check.teach(house, "rule a earn amount each 11; rule b earn 3;");
    Check.due("1 is left", house.would(0, 0, 9), 4);
    Check.teach(house, "rule a earn amount each 10; rule b earn 3;");
    Check.due("nothing is left", house.would(0, 0, 9), 3);
    Check.teach(house, "rule a earn amount each 5; rule b earn 3;");
    Check.due("5 too many were given", house.would(0, 0, 9), 3);
  }

  private static void eachWithoutWrapping() {
    Check.sentence("(without wrapping around)");
    String gives = "rule a earn " + MOST + "; rule b earn 1;";
    for (int times = 1; times <= 6; times++) {
      PointHouse house = Check.houseWith(gives, 1);
      for (int i = 0; i < times; i++) {
        house.buy(0, 0, 1);
      }
      Check.teach(house, "rule c earn 999 each 999999; rule b earn 100 each " + (times + 1) + ";");
      Check.due(times + " times the most", house.would(0, 0, 1), 1);
    }
  }

  private static void eachByMembers() {
    Check.sentence("for purchases of this member");
    PointHouse house = bought("rule a earn amount each 10;", 8);
    Check.due("the same member", house.would(0, 0, 9), 2);
    Check.due("another member", house.would(1, 0, 9), 9);
    house.addHousehold();
    house.move(0, 0);
    house.move(1, 0);
    Check.due("another member of the household", house.would(1, 0, 9), 9);
    house.addPartner(100, 5);
    Check.due("at another partner", house.would(0, 1, 9), 2);
    house.give(0, 1, 5);
    Check.due("behind a gift", house.would(0, 0, 9), 2);
    Check.sentence("The points that the rules gave for it do not count for each any more.");
    house.takeBack(0);
    Check.due("behind taking back", house.would(0, 0, 9), 9);
  }

  private static void eachByPeriods() {
    Check.sentence("in the same period (without wrapping around) (the days with the same number day / 30)");
    for (int period = 0; period < 3; period++) {
      PointHouse house = Check.houseWith("rule a earn amount each 10;", 1);
      Check.passAll(house, period * 30);
      house.buy(0, 0, 7);
      Check.due("on the first day", house.would(0, 0, 9), 3);
      house.pass(29);
      Check.due("on the 30th day", house.would(0, 0, 9), 3);
      house.buy(0, 0, 2);
      Check.due("given on two days", house.would(0, 0, 9), 1);
      house.pass(1);
      Check.due("in the next period", house.would(0, 0, 9), 9);
    }
    PointHouse late = Check.houseWith("rule a earn amount each 10;", 1);
    late.pass(29);
    late.buy(0, 0, 7);
    Check.due("on the day 29", late.would(0, 0, 9), 3);
    late.pass(1);
    Check.due("on the day 30", late.would(0, 0, 9), 9);
  }

  private static void eachByPlaces() {
    Check.sentence("what was given by rules counts for each by their places as before");
    PointHouse house = bought("rule a earn 5; rule b when amount > 1 earn 7; rule c earn 1;", 1, 2);
    Check.teach(house, "rule b earn 100 each 10; rule a earn 100 each 7; rule d earn 100 each 2;");
    Check.due("all is given", house.would(0, 0, 1), 0);
    Check.teach(house, "rule b earn 100 each 11; rule a earn 100 each 9; rule d earn 100 each 6;");
    Check.due("1, 2 and 4 are left", house.would(0, 0, 1), 7);
    Check.teach(house, "rule x earn 100 each 20;");
    Check.due("a rule at the first place", house.would(0, 0, 1), 10);
    Check.teach(house, "rule p earn 0; rule q earn 0; rule r earn 0; rule s earn 100 each 20;");
    Check.due("a place where was none", house.would(0, 0, 1), 20);
    house.teach();
    Check.teach(house, "rule a earn 100 each 11;");
    Check.due("behind rules of which there are none", house.would(0, 0, 1), 1);
    StringBuilder twelve = new StringBuilder();
    for (int i = 0; i < 11; i++) {
      twelve.append("rule n").append(i).append(" earn 0;");
    }
    PointHouse last = bought(twelve + "rule l earn 9 each 10;", 1);
    Check.due("the 12th place", last.would(0, 0, 1), 1);
  }

  private static void stopOfARule() {
    Check.sentence("A rule that counts and has stop is the last one.");
    String text = "rule a when amount > 5 earn 1 stop; rule b earn 2 stop; rule c earn 4;";
    brings(text, 5, 2);
    brings(text, 6, 1);
    brings("rule a earn 0 stop; rule b earn 2;", 1, 0);
    brings("rule a earn 5 most 0 stop; rule b earn 2;", 1, 0);
    brings("rule a earn 5 each 0 stop; rule b earn 2;", 1, 0);
    brings("rule a earn 1; rule b earn 2 stop;", 1, 3);
    PointHouse house = bought("rule a when amount > 5 earn 1 stop; rule b earn 2;", 6);
    Check.teach(house, "rule a earn 0; rule b earn 2 each 2;");
    Check.due("a rule behind stop gave nothing", house.would(0, 0, 1), 2);
  }

  private static void amountAndPartner() {
    Check.sentence("amount and partner are those of the purchase");
    PointHouse house = Check.houseWith("rule a earn amount;", 1);
    Check.due("amount 1", house.would(0, 0, 1), 1);
    Check.due("amount 10000", house.would(0, 0, 10000), 10000);
    for (int i = 1; i < 6; i++) {
      house.addPartner(100, 5);
    }
    Check.teach(house, "rule a earn 10+partner;");
    for (int i = 0; i < 6; i++) {
      Check.due("partner", house.would(0, i, 1), 10 + i);
    }
  }

  private static void tierAhead() {
    Check.sentence("tier, balance and owed those of the member ahead of it");
    String text = "rule a earn amount; rule b when tier = 0 earn 400000; rule c when tier = 3 earn 100000;";
    PointHouse house = Check.houseWith(text, 1);
    Check.due("tier 0", house.buy(0, 0, 5000), 405000);
    Check.due("tier", house.member(0, 1), 3);
    Check.due("tier 3", house.would(0, 0, 5000), 105000 * 115 / 100);
    int[] amounts = {1, 500, 2000, 5000};
    for (int tier = 0; tier < 4; tier++) {
      PointHouse other = Check.houseWith("rule a earn amount;", 1);
      other.buy(0, 0, amounts[tier]);
      Check.teach(other, "rule a earn 100*tier;");
      Check.due("tier " + tier, other.would(0, 0, 1), 100 * tier * (100 + 5 * tier) / 100);
    }
  }

  private static void tierOfTheMember() {
    PointHouse house = Check.houseWith("rule a earn amount;", 4);
    int[] amounts = {499, 500, 2000, 5000};
    for (int i = 0; i < 4; i++) {
      house.addPartner(100, 5);
      house.buy(i, 0, amounts[i]);
    }
    Check.teach(house, "rule a earn 1000*tier;");
    for (int member = 0; member < 4; member++) {
      for (int partner = 0; partner < 5; partner++) {
        int points = 1000 * member * (100 + 5 * member) / 100;
        Check.due("tier " + member + " at the partner " + partner, house.would(member, partner, 1), points);
      }
    }
  }

  private static void days() {
    Check.sentence("day is the day, weekday the day by the remainder of 7");
    PointHouse house = Check.houseWith("rule a earn 100*day+weekday;", 1);
    for (int day = 0; day <= 15; day++) {
      Check.due("day " + day, house.would(0, 0, 1), 100 * day + day % 7);
      house.pass(1);
    }
    Check.passAll(house, 2084);
    Check.due("day 2100", house.would(0, 0, 1), 210000);
  }

  private static void balanceAhead() {
    Check.sentence("The balance of a member is what is left in the lots of this one, added.");
    PointHouse house = Check.houseWith("rule a earn 5+balance;", 2);
    house.addPartner(100, 3);
    Check.due("balance 0", house.buy(0, 1, 1), 5);
    Check.due("balance 5", house.buy(0, 0, 1), 10);
    Check.due("balance 15", house.would(0, 0, 1), 20);
    Check.due("another member", house.would(1, 0, 1), 5);
    house.give(0, 1, 4);
    Check.due("balance 11", house.would(0, 0, 1), 16);
    Check.due("balance 3", house.would(1, 0, 1), 8);
    house.pass(3);
    Check.due("balance 10", house.would(0, 0, 1), 15);
    Check.due("balance 0 again", house.would(1, 0, 1), 5);
    house.addHousehold();
    house.move(0, 0);
    house.move(1, 0);
    Check.due("without the household", house.would(1, 0, 1), 5);
  }

  private static void nth() {
    Check.sentence("nth is 1 and the purchases of the member so far that are not taken back");
    PointHouse house = Check.houseWith("rule a earn nth;", 2);
    house.addReward(1, 9, 0);
    Check.due("the first", house.buy(0, 0, 1), 1);
    Check.due("the second", house.buy(0, 0, 1), 2);
    Check.due("of another member", house.would(1, 0, 1), 1);
    house.take(0, 0);
    house.give(0, 1, 1);
    Check.due("rewards and gifts are none", house.would(0, 0, 1), 3);
    house.pass(200);
    Check.due("long ago", house.buy(0, 0, 1), 3);
    house.takeBack(4);
    Check.due("behind taking back", house.would(0, 0, 1), 3);
  }

  private static void members() {
    Check.sentence("members how many are in the household, 1 without one");
    PointHouse house = Check.houseWith("rule a earn members;", 3);
    house.addHousehold();
    house.addHousehold();
    Check.due("without one", house.would(0, 0, 1), 1);
    house.move(0, 0);
    Check.due("alone", house.would(0, 0, 1), 1);
    house.move(1, 1);
    Check.due("others elsewhere", house.would(0, 0, 1), 1);
    house.move(1, 0);
    Check.due("two", house.would(0, 0, 1), 2);
    Check.due("two", house.would(1, 0, 1), 2);
    Check.due("without one", house.would(2, 0, 1), 1);
    for (int i = 3; i < 16; i++) {
      house.join(0);
    }
    Check.due("15", house.would(0, 0, 1), 15);
    house.move(2, 0);
    Check.due("16", house.would(15, 0, 1), 16);
    house.move(0, -1);
    Check.due("without one again", house.would(0, 0, 1), 1);
    Check.due("15 again", house.would(1, 0, 1), 15);
  }

  private static void owedAhead() {
    Check.sentence("owes points (0, at first)");
    PointHouse house = Check.houseWith("rule a earn amount+owed;", 2);
    Check.due("owed 0", house.buy(0, 0, 9), 9);
    house.give(0, 1, 8);
    Check.due("takeBack", house.takeBack(0), 8);
    Check.due("owed 8", house.would(0, 0, 1), 9);
    Check.due("another member", house.would(1, 0, 1), 1);
    Check.due("ahead of the purchase", house.buy(0, 0, 1), 9);
    Check.due("owed 0 again", house.would(0, 0, 1), 1);
  }
}
