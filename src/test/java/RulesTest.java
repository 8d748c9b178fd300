/** Promises 2 to 5, and what rules bring. */
public final class RulesTest {
  public static void main(String[] args) {
    feed();
    trim();
    teach();
    tokens();
    grammar();
    beginnings();
    trimmed();
    depth();
    size();
    names();
    errorsChangeNothing();
    reckoning();
    wrapping();
    tests();
    facts();
    mostEachStop();
    eachByPlaceAndPeriod();
    Check.end();
  }

  private static void feed() {
    PointHouse house = new PointHouse();
    Check.due("feed", house.feed(0x72756c65, 0x20612065, 0x61726e20, 0x373b2020, 0x20202020), 20);
    Check.due("teach of rule a earn 7;", house.teach(), 0);
    Check.due("rules", house.count(1), 1);
    house.feed(0x20202020, 0x2020200a, 0x20202020, 0x20202020, 0x20202080);
    Check.due("teach of the byte 128", house.teach(), 1);
    Check.due("errorAt of the byte 128", house.errorAt(), 19);
    for (int i = 1; i <= 100; i++) {
      Check.due("feed", house.feed(-1, -1, -1, -1, -1), 20 * i);
    }
    Check.noState("feed beyond 2000", () -> house.feed(0, 0, 0, 0, 0));
    Check.due("bytes of the tape", house.count(11), 2000);
    house.trim(1981);
    Check.noState("feed to 2001", () -> house.feed(0, 0, 0, 0, 0));
    house.trim(1980);
    Check.due("feed to 2000", house.feed(0, 0, 0, 0, 0), 2000);
  }

  private static void trim() {
    PointHouse house = new PointHouse();
    Check.due("trim(0)", house.trim(0), 0);
    Check.noArgument("trim(1)", () -> house.trim(1));
    Check.noArgument("trim(-1)", () -> house.trim(-1));
    Check.feedText(house, "rule a earn 1; rule b earn 2;");
    Check.noArgument("trim(30)", () -> house.trim(30));
    Check.due("trim(29)", house.trim(29), 29);
    Check.due("trim(14)", house.trim(14), 14);
    Check.due("bytes of the tape", house.count(11), 14);
    Check.due("teach", house.teach(), 0);
    Check.due("rules", house.count(1), 1);
  }

  private static void teach() {
    PointHouse house = new PointHouse();
    Check.due("errorAt()", house.errorAt(), -1);
    Check.due("teach of nothing", house.teach(), 0);
    Check.due("errorAt()", house.errorAt(), -1);
    Check.due("teach", Check.teach(house, "rule a earn 1; rule b earn 2;"), 0);
    Check.due("bytes of the tape", house.count(11), 0);
    Check.due("rules", house.count(1), 2);
    Check.due("teach", Check.teach(house, " \n "), 0);
    Check.due("rules", house.count(1), 0);
    Check.due("teach of nothing once more", house.teach(), 0);
    Check.due("rules", house.count(1), 0);
    String all = "rule a earn 1" + "+1".repeat(147) + ";";
    for (int i = 0; i < 6; i++) {
      Check.due("teach many", Check.teach(house, all), 0);
    }
    house.addPartner(100, 1);
    house.join(-1);
    Check.due("many points", house.would(0, 0, 1), 148);
  }

  private static void error(String text, int error, int position) {
    Check.reads(text, error, position);
  }

  private static void good(String text) {
    error(text, 0, -1);
  }

  private static void tokens() {
    good("rule a earn 1;");
    good("\n rule  a1b2\nearn 1 ; \n");
    good("rule abcdefghij earn 123456;");
    error("rule abcdefghijk earn 1;", 1, 5);
    good("rule z earn 1; rule z0a9 earn 1;");
    error("rule ` earn 1;", 1, 5);
    error("rule { earn 1;", 1, 5);
    error("rule a earn :;", 1, 12);
    error("rule a earn 1234567;", 1, 12);
    error("rule a earn 12345678901234567890;", 1, 12);
    error("rule a earn 000000;", 0, -1);
    error("rulea earn 1;", 1, 0);
    error("rule a earn1;", 1, 7);
    good("rule a earn 1each 5stop;");
    good("rule a when 1<=2 earn 1;");
    good("rule a when 1>=2 earn 1;");
    error("rule a when 1< =2 earn 1;", 1, 15);
    error("rule a when 1=<2 earn 1;", 1, 14);
    error("rule a when 1<>2 earn 1;", 1, 14);
    error("rule A earn 1;", 1, 5);
    error("rule a\tearn 1;", 1, 6);
    error("rule a earn 1_;", 1, 13);
    error("rule a earn 1.5;", 1, 13);
    error("rule a earn 1;\0", 1, 14);
    error("rule rule earn 1;", 1, 5);
    error("rule owed earn 1;", 1, 5);
    error("rule 1a earn 1;", 1, 5);
    error("rule a earn 1; %", 1, 15);
    error("% rule a earn 1;", 1, 0);
  }

  private static void grammar() {
    error("rule", 1, 4);
    error("rule earn 1;", 1, 5);
    error("rule a 1;", 1, 7);
    error("rule a earn most 1;", 1, 12);
    error("rule a earn 1 + ;", 1, 16);
    error("rule a earn 1 * ;", 1, 16);
    error("rule a earn - ;", 1, 14);
    error("rule a earn min ;", 1, 16);
    error("rule a earn min(1,;", 1, 18);
    error("rule a earn 1 most ;", 1, 19);
    error("rule a earn 1 most stop;", 1, 19);
    error("rule a earn 1 each ;", 1, 19);
    error("rule a when 1=1 or earn 1;", 1, 19);
    error("rule a when 1=1 and earn 1;", 1, 20);
    error("rule a when 1=1 and or 1=1 earn 1;", 1, 20);
    error("rule a when not earn 1;", 1, 16);
    error("rule a when [1=1 earn 1;", 1, 17);
    error("rule a when [] earn 1;", 1, 13);
    error("rule a when 1= earn 1;", 1, 15);
    error("rule a earn 1", 1, 13);
    error("rule a earn 1  \n", 1, 16);
    error("rule a earn ;", 1, 12);
    error("rule a when earn 1;", 1, 12);
    error("rule a when 1 earn 1;", 1, 14);
    error("rule a when (1 < 2) earn 1;", 1, 15);
    good("rule a when [1 < 2] earn 1;");
    error("rule a when [1] < 2 earn 1;", 1, 14);
    error("rule a when 1 < 2 < 3 earn 1;", 1, 18);
    good("rule a when not not 1 < 2 and [1=1 or 2=2] or 3>=3 earn 1;");
    error("rule a when 1 < not 2 earn 1;", 1, 16);
    error("rule a when and earn 1;", 1, 12);
    good("rule a earn 1 most 2 each 3 stop;");
    good("rule a earn amount+partner+tier+day+weekday+balance+nth+members+owed;");
    error("rule a earn 1 each 3 most 2;", 1, 21);
    error("rule a earn 1 stop each 3;", 1, 19);
    error("rule a earn 1 each -3;", 1, 19);
    error("rule a earn 1 each 3 + 1;", 1, 21);
    error("rule a earn +1;", 1, 12);
    good("rule a earn - -1*-2;");
    error("rule a earn 1 2;", 1, 14);
    error("rule a earn b;", 1, 12);
    error("rule a earn min 1;", 1, 16);
    error("rule a earn min(1);", 1, 17);
    error("rule a earn min(1,2,3);", 1, 19);
    good("rule a earn max(1,min(2,3));");
    error("rule a earn (1;", 1, 14);
    error("rule a earn 1);", 1, 13);
    error("rule a earn 1;;", 1, 14);
    error("earn 1;", 1, 0);
    error("rule a earn 1; rule", 1, 19);
  }

  /** No beginning of a rule is a text, and another rule does not follow it. */
  private static void beginnings() {
    String rule = "rule a when not [ 1 = - 1 or 1 < min ( 2 , 3 ) and 4 >= 4 ] earn ( 5 + 6 ) * 7 most 8 / 9 each 10 stop ;";
    good(rule + rule.replace(" a ", " b "));
    for (int i = rule.indexOf(' '); i >= 0; i = rule.indexOf(' ', i + 1)) {
      error(rule.substring(0, i), 1, i);
      error(rule.substring(0, i) + " rule b earn 1;", 1, i + 1);
    }
  }

  /** What stood behind the end of the tape is not read. */
  private static void trimmed() {
    String[] texts = {"rule a earn 1;      ", "rule a earn 12345678", "rule abcdefghijklmno", "rule a earn 1;<=>==;"};
    for (String text : texts) {
      for (int n = 0; n <= 20; n++) {
        PointHouse house = new PointHouse();
        Check.feedText(house, text);
        house.trim(n);
        int[] want = Model.errorOf(text.substring(0, n));
        Check.due("teach of the first " + n + " of " + text, house.teach(), want[0]);
        Check.due("errorAt of the first " + n + " of " + text, house.errorAt(), want[1]);
      }
    }
    for (String end : new String[] {" ", "a", "1", "<", ">", "=", "\n", ";"}) {
      String text = "rule a earn 1;" + " ".repeat(1985) + end;
      error(text, end.isBlank() ? 0 : 1, end.isBlank() ? -1 : 1999);
    }
    error("rule b earn 1" + " ".repeat(1986) + "<", 1, 1999);
    error("rule b when 1" + " ".repeat(1986) + "<", 1, 2000);
    error("rule" + " ".repeat(1986) + "abcdefghij", 1, 2000);
    error("rule b earn 1 each" + " ".repeat(1976) + "123456", 1, 2000);
    good("rule b earn 1 " + " ".repeat(1985) + ";");
  }

  private static void depth() {
    good("rule a earn ((((((((1))))))));");
    error("rule a earn (((((((((1)))))))));", 1, 20);
    good("rule a earn 1 most ((((((((1))))))));");
    error("rule a earn 1 most (((((((((1)))))))));", 1, 27);
    good("rule a earn max(1,(((((((1))))))));");
    error("rule a earn max(1,((((((((1)))))))));", 1, 25);
    good("rule a earn max((((((((1))))))),1);");
    error("rule a earn max(((((((((1)))))))),1);", 1, 23);
    good("rule a when ((((((((1)))))))) = ((((((((1)))))))) earn 1;");
    error("rule a when 1 = (((((((((1))))))))) earn 1;", 1, 24);
    good("rule a earn (1)+((((((((1))))))))*((((((((1))))))));");
    good("rule a earn --------1;");
    error("rule a earn ---------1;", 1, 20);
    good("rule a when [[[[[[[[1=1]]]]]]]] earn 1;");
    error("rule a when [[[[[[[[[1=1]]]]]]]]] earn 1;", 1, 20);
    good("rule a when not not not not not not not not 1=1 earn 1;");
    error("rule a when not not not not not not not not not 1=1 earn 1;", 1, 44);
    good("rule a earn min(min(min(min(min(min(min(min(1,1),1),1),1),1),1),1),1);");
    error("rule a earn -(-(-(-(min(1,2)))));", 1, 23);
    error("rule a earn -(-(-(-(min 1)))));", 1, 24);
    error("rule a when not [not [-(-(-((1))))=1]] earn 1;", 1, 26);
    good("rule a when not [not [-(-(1)) = 1]] and not [not [-(-(1)) = 1]] earn --------1 * --------1;");
    error("rule a when not 1 = -------1 and 1 = --------1 earn -(1);", 0, -1);
    error("rule a when not 1 = --------1 earn 1;", 1, 27);
  }

  private static void size() {
    StringBuilder sum = new StringBuilder("rule a earn 1");
    for (int i = 0; i < 147; i++) {
      sum.append("+1");
    }
    error(sum + "each 1;", 1, sum.length() + 6);
    good(sum + "stop;");
    error(sum + "stop; rule", 1, sum.length() + 6);
    error(sum + "+1;", 1, sum.length() + 2);
    error(sum + "stop; \n %", 1, sum.length() + 8);
    error(sum + "+1", 1, sum.length() + 2);
    StringBuilder rules = new StringBuilder();
    for (int i = 0; i < 60; i++) {
      rules.append("rule a").append(i).append(" earn 1;");
    }
    error(rules.toString(), 3, rules.indexOf("a12"));
    error(rules + "rule a earn 1;", 1, rules.length());
  }

  private static String rules(String names) {
    StringBuilder text = new StringBuilder();
    for (char name : names.toCharArray()) {
      text.append("rule ").append(name).append(" earn 1;");
    }
    return text.toString();
  }

  private static void names() {
    good(rules("abcdefghijkl"));
    error(rules("abcdefghijklm"), 3, 14 * 12 + 5);
    error(rules("abcdefghijklmm"), 3, 14 * 12 + 5);
    error(rules("abcdefghijkla"), 2, 14 * 12 + 5);
    error(rules("abcdefghijjlm"), 2, 14 * 10 + 5);
    error(rules("aba"), 2, 33);
    error(rules("abaa"), 2, 33);
    good("rule ab earn 1; rule a earn 1; rule abc earn 1; rule ba earn 1; rule ac earn 1; rule bb earn 1;");
    error("rule abc earn 1; rule abd earn 1; rule xbc earn 1; rule abc earn 1;", 2, 56);
    error("rule a earn 1; rule a\nearn 1;", 2, 20);
    good("rule mule earn 1; rule bay earn 1; rule rul earn 1; rule rules earn 1; rule mim earn 1;");
    error(rules("aa") + "rule", 1, 32);
  }

  private static void errorsChangeNothing() {
    PointHouse house = Check.houseWith("rule a earn 7;", 1);
    for (String text : new String[] {"rule a earn 8; rule", "rule a earn 8; rule a earn 9;", rules("abcdefghijklm")}) {
      Check.due("teach has an error", Check.teach(house, text) > 0, true);
      Check.due("rules", house.count(1), 1);
      Check.due("buy", house.buy(0, 0, 1), 7);
    }
    Check.due("teach", Check.teach(house, "rule a earn 8;"), 0);
    Check.due("errorAt", house.errorAt(), -1);
    Check.due("buy", house.buy(0, 0, 1), 8);
  }

  private static void earns(String sum, int want) {
    PointHouse house = Check.houseWith("rule a earn " + sum + ";", 1);
    Check.due("earn " + sum, house.would(0, 0, 100), want);
    if (want > 0) {
      return;
    }
    PointHouse turned = Check.houseWith("rule a earn -(" + sum + ");", 1);
    Check.due("earn -(" + sum + ")", turned.would(0, 0, 100), -want);
  }

  private static void reckoning() {
    earns("10-4-3", 3);
    earns("100/7/2", 7);
    earns("2+3*4", 14);
    earns("(2+3)*4", 20);
    earns("7/2*2", 6);
    earns("10-2*3+1", 5);
    earns("--5", 5);
    earns("-3*-4", 12);
    earns("10+-3", 7);
    earns("20-(0-7)/2", 23);
    earns("20+7/-2", 17);
    earns("5+7/0", 5);
    earns("min(3,8)", 3);
    earns("max(3,8)", 8);
    earns("9+min(-3,2)", 6);
    earns("max(-3,-2)+9", 7);
    earns("min(1+2,max(1,2)*9)", 3);
    PointHouse below = Check.houseWith("rule a earn 10; rule b earn 0-5;", 1);
    Check.due("a rule gives at least 0", below.would(0, 0, 1), 10);
  }

  private static void wrapping() {
    String min = "(0-65536*32768)";
    earns("(65536*32768+1)/-65536/4", 8191);
    earns("0-" + min + "/65536/4096", 8);
    earns(min + "/-1/65536/-4096", 8);
    earns("-" + min + "/65536/-4096", 8);
    earns("(" + min + "-1)/65536/4096", 7);
    earns("65536*65536+3", 3);
    earns("2147*999999/100000", 21469);
    earns("0-(0-2147)*999999/100000", 21469);
  }

  private static void holds(String test, boolean want) {
    PointHouse house = Check.houseWith("rule a when " + test + " earn 1;", 1);
    Check.due("when " + test, house.would(0, 0, 100), want ? 1 : 0);
  }

  private static void tests() {
    String[] signs = {"<", ">", "=", "<=", ">="};
    boolean[][] held = {{true, false, false}, {false, false, true}, {false, true, false}, {true, true, false}, {false, true, true}};
    for (int i = 0; i < signs.length; i++) {
      holds("1" + signs[i] + "2", held[i][0]);
      holds("2" + signs[i] + "2", held[i][1]);
      holds("2" + signs[i] + "1", held[i][2]);
    }
    holds("0-1 < 1", true);
    for (String told : new String[] {"1<2", "2>1", "2=2", "1<=2", "2>=1"}) {
      holds("not " + told, false);
      holds("1=1 and " + told, true);
      holds(told + " and 1=1", true);
      holds("not not " + told, true);
      holds("not [1=1 and " + told + "]", false);
      holds("not [" + told + " or 1=2]", false);
    }
    holds("65536*32768 < 0", true);
    holds("1=1 and 1=1", true);
    holds("1=1 and 1=2", false);
    holds("1=2 and 1=1", false);
    holds("1=2 or 1=1", true);
    holds("1=1 or 1=2", true);
    holds("1=2 or 1=2", false);
    holds("1=1 or 1=1 and 1=2", true);
    holds("[1=1 or 1=1] and 1=2", false);
    holds("1=2 and 1=2 or 1=1", true);
    holds("1=2 and [1=2 or 1=1]", false);
    holds("not 1=2", true);
    holds("not 1=1", false);
    holds("not 1=1 or 1=1", true);
    holds("not [1=1 or 1=1]", false);
    holds("not 1=2 and 1=2", false);
    holds("not [1=2 and 1=2]", true);
    holds("not not 1=1", true);
  }

  private static void facts() {
    PointHouse house = Check.houseWith("rule a earn partner*100000 + members*10000 + day*100 + weekday*10 + tier;", 2);
    house.addPartner(100, 10);
    house.addHousehold();
    Check.due("members without a household", house.would(0, 0, 1), 10000);
    house.move(0, 0);
    house.pass(9);
    Check.due("day and weekday", house.would(0, 1, 1), 110920);
    house.move(1, 0);
    Check.due("members of a household", house.would(0, 0, 1), 20920);
    house.buy(0, 0, 1);
    Check.due("tier", house.would(0, 0, 1), 20923 * 115 / 100);
    Check.teach(house, "rule a earn nth*100 + amount;");
    Check.due("nth and amount", house.would(0, 0, 17), 217 * 115 / 100);
    house.takeBack(0);
    Check.due("nth without what was taken back", house.would(0, 0, 17), 117 * 115 / 100);
    PointHouse debt = Check.houseWith("rule a earn 100;", 2);
    debt.buy(0, 0, 1);
    debt.give(0, 1, 70);
    debt.takeBack(0);
    Check.teach(debt, "rule a earn owed*100+balance;");
    Check.due("owed", debt.would(0, 0, 1), 7000);
    Check.due("balance", debt.would(1, 0, 1), 63);
  }

  private static void mostEachStop() {
    PointHouse house = Check.houseWith("rule a earn amount most 50 - 5;", 1);
    Check.due("below most", house.would(0, 0, 44), 44);
    Check.due("above most", house.would(0, 0, 46), 45);
    Check.teach(house, "rule a earn amount most 0 - 5; rule b earn 1;");
    Check.due("most is at least 0", house.would(0, 0, 44), 1);
    Check.teach(house, "rule a when amount > 10 earn 5 stop; rule b earn 1;");
    Check.due("stop counts", house.would(0, 0, 11), 5);
    Check.due("stop does not count", house.would(0, 0, 10), 1);
    Check.teach(house, "rule a earn 0 stop; rule b earn 1;");
    Check.due("stop that gives nothing", house.would(0, 0, 10), 0);
    Check.teach(house, "rule a earn amount most 30 each 50;");
    Check.due("each at first", house.buy(0, 0, 100), 30);
    Check.due("each what is left", house.buy(0, 0, 100), 20);
    Check.due("each is used up", house.buy(0, 0, 100), 0);
    Check.teach(house, "rule a earn 5 each 0;");
    Check.due("each 0", house.buy(0, 0, 100), 0);
  }

  private static void eachByPlaceAndPeriod() {
    PointHouse house = Check.houseWith("rule a earn 40 each 50; rule b earn 3 each 5;", 2);
    house.addPartner(50, 10);
    house.pass(29);
    Check.due("first purchase", house.buy(0, 0, 1), 43);
    Check.due("another member", house.would(1, 0, 1), 43);
    Check.due("second purchase", house.would(0, 0, 1), 12);
    house.pass(1);
    Check.due("the next period", house.buy(0, 0, 1), 43);
    Check.teach(house, "rule c earn 1; rule d earn 30 each 4; rule e earn 5 each 5;");
    Check.due("counted by places", house.would(0, 0, 1), 1 + 1 + 5);
    Check.teach(house, "rule a earn 40 each 50; rule b earn 3 each 5;");
    house.buy(0, 0, 1);
    Check.due("given by two purchases", house.would(0, 0, 1), 0);
    house.takeBack(1);
    Check.due("what was taken back does not count", house.would(0, 0, 1), 43);
    house.buy(0, 1, 1);
    Check.due("given ahead of the factor", house.transaction(3, 3), 21);
    Check.due("given ahead of the factor counts", house.would(0, 0, 1), 0);
    house.pass(29);
    Check.due("day 59 is the same period", house.would(0, 0, 1), 0);
    house.pass(1);
    Check.due("day 60 is another one", house.would(0, 0, 1), 43);
    Check.teach(house, "rule x earn 999999 each 999999; rule y earn 999*999999;");
    house.buy(1, 0, 1);
    Check.due("each counts without wrapping", house.transaction(4, 3), 1000000);
    Check.teach(house, "rule p earn 1; rule q earn 100 each 999999;");
    Check.due("a rule without each is counted, too", house.would(1, 0, 1), 1 * 115 / 100);
    Check.teach(house, "rule x earn 1; rule y earn 2000*999999;");
    house.buy(1, 0, 1);
    house.buy(1, 0, 1);
    Check.teach(house, "rule x earn 1; rule y earn 100 each 999999;");
    Check.due("given does not wrap", house.would(1, 0, 1), 1 * 115 / 100);
  }
}
