/** The edges of the tape, of tokens, grammar, depth and errors, and of promises 2 to 5, sentence by sentence. */
public final class EdgesOfTextsTest {
  private static final String[] KEYWORDS = ("rule when earn most each stop and or not min max amount partner tier day"
      + " weekday balance nth members owed").split(" ");

  public static void main(String[] args) {
    tapeIsEmptyAtFirst();
    tapeOfTwoThousand();
    bytesOfFeed();
    trimmed();
    emptyBehindTeach();
    blanks();
    blanksThatHaveToStand();
    longestToken();
    words();
    numbers();
    bytesOfTokens();
    keywords();
    partsOfRules();
    depthOfEight();
    depthOfAllParts();
    depthBehindAPart();
    depthGoesBack();
    endOfTheTape();
    tokensAtMost();
    tokenTooMany();
    firstByteOfTheError();
    namesToldAhead();
    thirteenRules();
    namesOnlyWithoutErrorOne();
    teachWithAnError();
    inThePlaceOfThose();
    errorOfTheLatest();
    Check.end();
  }

  private static void good(String text) {
    Check.reads(text, 0, -1);
  }

  private static void error(String text, int position) {
    Check.reads(text, 1, position);
  }

  private static boolean isLetterOrDigit(int b) {
    return b >= 'a' && b <= 'z' || b >= '0' && b <= '9';
  }

  private static boolean isBlank(int b) {
    return b == 32 || b == 10;
  }

  private static void tapeIsEmptyAtFirst() {
    Check.sentence("The tape is a row of at most 2000 bytes, at first empty");
    PointHouse house = new PointHouse();
    Check.due("bytes of the tape", house.count(11), 0);
    Check.due("trim(0)", house.trim(0), 0);
    Check.due("teach()", house.teach(), 0);
    Check.due("errorAt()", house.errorAt(), -1);
    Check.due("rules", house.count(1), 0);
  }

  private static PointHouse fed(int times) {
    PointHouse house = new PointHouse();
    for (int i = 0; i < times; i++) {
      house.feed(0x20202020, 0x20202020, 0x20202020, 0x20202020, 0x20202020);
    }
    return house;
  }

  private static void tapeOfTwoThousand() {
    Check.sentence("Throws IllegalStateException if there would be more than 2000");
    PointHouse house = fed(99);
    Check.due("feed to 2000", house.feed(0, 0, 0, 0, 0), 2000);
    Check.noState("feed to 2020", () -> house.feed(0, 0, 0, 0, 0));
    Check.due("bytes of the tape", house.count(11), 2000);
    for (int n = 1981; n < 2000; n++) {
      house.trim(n);
      Check.noState("feed behind " + n, () -> house.feed(0, 0, 0, 0, 0));
      Check.due("bytes of the tape", house.count(11), n);
      house.trim(1980);
      house.feed(0, 0, 0, 0, 0);
    }
    Check.sentence("A method that throws an exception changes nothing.");
    PointHouse refused = fed(99);
    Check.feedText(refused, "rule a earn 1;");
    Check.noState("feed behind 1994", () -> refused.feed(0x20202020, 0x20253b3b, 0, 0, 0));
    Check.due("bytes of the tape", refused.count(11), 1994);
    Check.due("teach()", refused.teach(), 0);
    Check.due("rules", refused.count(1), 1);
  }

  private static void bytesOfFeed() {
    Check.sentence("Appends twenty bytes to the tape: the four bytes of each number, the highest one first.");
    for (int place = 0; place < 20; place++) {
      for (int b : new int[] {0, 1, 127, 128, 255}) {
        int[] numbers = {0x20202020, 0x20202020, 0x20202020, 0x20202020, 0x20202020};
        int shift = 24 - place % 4 * 8;
        numbers[place / 4] = numbers[place / 4] & ~(255 << shift) | b << shift;
        PointHouse house = new PointHouse();
        house.feed(numbers[0], numbers[1], numbers[2], numbers[3], numbers[4]);
        Check.due("teach() of the byte " + b, house.teach(), 1);
        Check.due("errorAt() of the byte " + b, house.errorAt(), place);
      }
    }
    PointHouse house = new PointHouse();
    Check.due("feed", house.feed(0x72756c65, 0x20612065, 0x61726e20, 0x39393939, 0x39393b0a), 20);
    Check.due("feed", house.feed(0x72756c65, 0x20622065, 0x61726e20, 0x30303030, 0x30313bff), 40);
    Check.due("trim", house.trim(39), 39);
    Check.due("teach()", house.teach(), 0);
    Check.due("rules", house.count(1), 2);
  }

  private static void trimmed() {
    Check.sentence("Throws IllegalArgumentException if n is not 0 to the number of bytes of the tape");
    PointHouse house = fed(0);
    Check.noArgument("trim(1) of nothing", () -> house.trim(1));
    Check.feedText(house, "rule a earn 1;");
    for (int n : new int[] {Integer.MIN_VALUE, -1, 15, 20, Integer.MAX_VALUE}) {
      Check.noArgument("trim(" + n + ")", () -> house.trim(n));
    }
    Check.due("bytes of the tape", house.count(11), 14);
    Check.due("trim to all", house.trim(14), 14);
    Check.due("trim to all but one", house.trim(13), 13);
    Check.noArgument("trim to what there was", () -> house.trim(14));
    Check.sentence("Shortens the tape to its first bytes.");
    Check.feedText(house, "7 stop;");
    Check.due("teach()", house.teach(), 0);
    house.addPartner(100, 1);
    house.join(-1);
    Check.due("earn 17", house.would(0, 0, 1), 17);
    Check.feedText(house, "%");
    Check.due("trim(0)", house.trim(0), 0);
    Check.due("teach()", house.teach(), 0);
    for (int n = 0; n < 24; n++) {
      Check.feedText(house, "rule a when 1<=2 earn 1;");
      house.trim(n);
      Check.due("what was cut behind " + n + " is not read", house.teach(), n == 0 ? 0 : 1);
      int first = n < 4 ? 0 : n > 6 && n < 11 ? 7 : n > 16 && n < 21 ? 17 : n;
      Check.due("errorAt() behind " + n, house.errorAt(), n == 0 ? -1 : first);
    }
    PointHouse full = fed(100);
    Check.noArgument("trim(2001)", () -> full.trim(2001));
    Check.due("trim(2000)", full.trim(2000), 2000);
  }

  private static void emptyBehindTeach() {
    Check.sentence("teach reads it as rules, and it is empty behind it");
    String[] texts = {"rule a earn 1;", "rule", "rule a earn 1; rule a earn 1;", rules(13), ""};
    int[] errors = {0, 1, 2, 3, 0};
    for (int i = 0; i < texts.length; i++) {
      PointHouse house = new PointHouse();
      Check.due("teach of " + texts[i], Check.teach(house, texts[i]), errors[i]);
      Check.due("bytes of the tape", house.count(11), 0);
      Check.noArgument("trim(1)", () -> house.trim(1));
      Check.due("teach() of the empty tape", house.teach(), 0);
    }
    PointHouse full = fed(100);
    Check.due("teach() of 2000 blanks", full.teach(), 0);
    Check.due("feed", full.feed(0, 0, 0, 0, 0), 20);
  }

  private static void blanks() {
    Check.sentence("Blanks (32) and line ends (10) can stand between tokens, at the beginning and at the end");
    for (int b = 0; b < 256; b++) {
      String sign = String.valueOf((char) b);
      Check.reads(sign + "rule a earn 1;", isBlank(b) ? 0 : 1, isBlank(b) ? -1 : 0);
      Check.reads("rule a earn 1;" + sign, isBlank(b) ? 0 : 1, isBlank(b) ? -1 : 14);
      int between = isLetterOrDigit(b) ? 12 : 6;
      Check.reads("rule a" + sign + "earn 1;", isBlank(b) ? 0 : 1, isBlank(b) ? -1 : between);
    }
    good("\n \n\n  rule\n\n  a  \nearn \n ( \n 1 \n ) \n ; \n\n  ");
    good("rule a earn(1);rule b earn-1;");
    good(" ".repeat(1986) + "rule a earn 1;");
    good("\n".repeat(2000));
  }

  private static void blanksThatHaveToStand() {
    Check.sentence("have to stand between two tokens that would otherwise be read as one");
    error("rulea earn 1;", 0);
    error("rule a earn1;", 7);
    error("rule a when1=1 earn 1;", 7);
    error("rule a when not1=1 earn 1;", 12);
    error("rule a when 1=1 andnot 1=2 earn 1;", 16);
    error("rule a earn 1 each5;", 14);
    error("rule a earn tier0;", 12);
    good("rule a when[1=1]and[1=1]or not[1=1]earn min(1,2)most(3)each 4stop;");
    good("rule a when 1=1and 2=2or 3=3earn 1most 2each 3stop;");
  }

  private static void longestToken() {
    Check.sentence("The longest possible token is always read.");
    good("rule a when 1<=2 earn 1;");
    good("rule a when 1>=2 earn 1;");
    error("rule a when 1< =2 earn 1;", 15);
    error("rule a when 1> =2 earn 1;", 15);
    error("rule a when 1<==2 earn 1;", 15);
    error("rule a when 1>==2 earn 1;", 15);
    error("rule a when 1=<2 earn 1;", 14);
    error("rule a when 1=>2 earn 1;", 14);
    error("rule a when 1==2 earn 1;", 14);
    error("rule a when 1<>2 earn 1;", 14);
    error("rule a when 1<<2 earn 1;", 14);
    error("rule a earn 1<=;", 13);
    good("rule rules earn 1;");
    good("rule minmax earn 1;");
    good("rule stop1 earn 1;");
    error("rule a earn 12 3;", 15);
    error("rule a earn 1stops;", 13);
  }

  private static void words() {
    Check.sentence("A word: a letter a to z, followed by letters a to z and digits, at most 10 bytes.");
    for (String name : new String[] {"a", "z", "a0", "z9", "az", "za", "a000000000", "zzzzzzzzzz", "abcdefghij"}) {
      good("rule " + name + " earn 1;");
    }
    for (String name : new String[] {"a0000000000", "zzzzzzzzzzz", "abcdefghijk", "a".repeat(100), "rulerulerule"}) {
      error("rule " + name + " earn 1;", 5);
    }
    for (String name : new String[] {"0", "9a", "A", "Z", "`", "{", "_a", "\u00e4", ":", "@", "["}) {
      error("rule " + name + " earn 1;", 5);
    }
    for (String tail : new String[] {"A", "Z", "`", "{", "_", "/", ":", "\u00df", "."}) {
      error("rule a" + tail + " earn 1;", 6);
    }
    error("a".repeat(2000), 0);
    error(" " + "a".repeat(11), 1);
  }

  private static void numbers() {
    Check.sentence("A number: 1 to 6 digits.");
    for (String number : new String[] {"0", "9", "10", "99999", "100000", "999999", "000000", "000001"}) {
      good("rule a earn " + number + ";");
      good("rule a earn 1 each " + number + ";");
    }
    for (String number : new String[] {"0000000", "1000000", "9999999", "0000001", "4294967297", "1".repeat(900)}) {
      error("rule a earn " + number + ";", 12);
      error("rule a earn 1 each " + number + ";", 19);
    }
    PointHouse house = Check.houseWith("rule a earn 000012;", 1);
    Check.due("earn 000012", house.would(0, 0, 1), 12);
    Check.teach(house, "rule a earn 999999;");
    Check.due("earn 999999", house.would(0, 0, 1), 999999);
  }

  private static void bytesOfTokens() {
    Check.sentence("This includes a byte with which no token begins");
    for (int b = 0; b < 256; b++) {
      String sign = String.valueOf((char) b);
      boolean digit = b >= '0' && b <= '9';
      boolean operator = "+-*/".indexOf(b) >= 0;
      boolean ends = isBlank(b) || b == ';';
      boolean reckons = digit || operator;
      Check.reads("rule a earn 1" + sign + "2;", reckons ? 0 : 1, reckons ? -1 : ends ? 14 : 13);
      boolean compares = "<>=".indexOf(b) >= 0;
      int position = reckons ? 16 : isBlank(b) ? 14 : 13;
      Check.reads("rule a when 1" + sign + "2 earn 1;", compares ? 0 : 1, compares ? -1 : position);
    }
  }

  private static void keywords() {
    Check.sentence("The keywords are: rule when earn most each stop and or not min max amount partner tier day weekday"
        + " balance nth members owed. All other words are names.");
    for (String keyword : KEYWORDS) {
      error("rule " + keyword + " earn 1;", 5);
      good("rule " + keyword + "x earn 1;");
      good("rule " + keyword + "0 earn 1;");
      good("rule x" + keyword + " earn 1;");
      good("rule " + keyword.substring(0, keyword.length() - 1) + " earn 1;");
      good("rule " + keyword.substring(0, keyword.length() - 1) + "z earn 1;");
      good("rule " + keyword.substring(1) + "z earn 1;");
      good("rule z" + keyword.substring(1) + " earn 1;");
      error("rule " + keyword.toUpperCase() + " earn 1;", 5);
    }
    for (String what : "amount partner tier day weekday balance nth members owed".split(" ")) {
      good("rule a earn " + what + ";");
    }
    for (String other : "rule when earn most each stop and or not min max a".split(" ")) {
      int position = other.equals("min") || other.equals("max") ? 15 : 12;
      error("rule a earn " + other + ";", position);
    }
  }

  /** Each part in brackets at most once, and those in braces any number of times. */
  private static void partsOfRules() {
    Check.sentence("[ x ] outside of quotation marks means x or nothing, { x } x any number of times, also none");
    good("");
    good("rule a earn 1;");
    good("rule a when 1=1 earn 1 most 1 each 1 stop;");
    error("rule a when 1=1 when 1=1 earn 1;", 16);
    error("rule a earn 1 earn 1;", 14);
    error("rule a earn 1 most 1 most 1;", 21);
    error("rule a earn 1 each 1 each 1;", 21);
    error("rule a earn 1 stop stop;", 19);
    error("rule a earn 1 stop most 1;", 19);
    error("rule a b earn 1;", 7);
    error("rule a earn 1;;", 14);
    error(";", 0);
    error("rule a earn 1; 1", 15);
    error("rule a earn 1; earn", 15);
    good("rule a earn 1" + "+1-1".repeat(73) + ";");
    good("rule a earn 1" + "*1/1".repeat(73) + ";");
    good("rule a when 1=1" + " or 1=1".repeat(36) + " and 2=2".repeat(36) + " earn 1;");
    error("rule a when earn 1;", 12);
    error("rule a when not earn 1;", 16);
    error("rule a when [1=1] or earn 1;", 21);
    error("rule a when [1=1 and] earn 1;", 20);
    error("rule a when (1=1) earn 1;", 14);
    error("rule a when [1] earn 1;", 14);
    error("rule a when 1=[2] earn 1;", 14);
    error("rule a when 1=1=1 earn 1;", 15);
    error("rule a earn 1+;", 14);
    error("rule a earn 1-;", 14);
    error("rule a earn 1*;", 14);
    error("rule a earn 1/;", 14);
    error("rule a earn 1+ + 1;", 15);
    error("rule a earn (1+);", 15);
    error("rule a earn (1*);", 15);
    error("rule a earn min(1+,2);", 18);
    error("rule a when 1=1+ and 1=1 earn 1;", 17);
    error("rule a when 1=1/ earn 1;", 17);
    error("rule a when 1=1 and earn 1;", 20);
    error("rule a when 1=1 or earn 1;", 19);
    error("rule a earn 1 most ;", 19);
    error("rule a earn 1 each ;", 19);
    error("rule a earn [1];", 12);
    error("rule a earn ();", 13);
    error("rule a earn min();", 16);
    error("rule a earn min(1);", 17);
    error("rule a earn max(1,2,3);", 19);
    error("rule a earn (1,2);", 14);
    error("rule a earn 1 each -1;", 19);
    error("rule a earn 1 each (1);", 19);
    error("rule a earn 1 each amount;", 19);
    error("rule a earn not 1;", 12);
    error("rule a earn 1<2;", 13);
  }

  /** What opens and what closes each part in which the depth is greater; its last sign is the one told. */
  private static final String[][] OF_TESTS = {{"[", "]"}, {"not ", ""}};
  private static final String[][] OF_VALUES = {{"(", ")"}, {"-", ""}, {"min(", ",1)"}, {"max(1,", ")"}};

  private static String within(String[] kind, int times, String inner) {
    return kind[0].repeat(times) + inner + kind[1].repeat(times);
  }

  private static int signOf(String[] kind) {
    return kind[0].indexOf('(') < 0 ? 0 : kind[0].indexOf('(');
  }

  private static void depthOfEight() {
    Check.sentence("It may be at most 8.");
    for (String[] test : OF_TESTS) {
      for (String[] value : OF_VALUES) {
        for (int tests = 0; tests <= 8; tests++) {
          String inner = within(value, 8 - tests, "1");
          good("rule a when " + within(test, tests, inner + "=1") + " earn 1;");
          good("rule a when " + within(test, tests, "1=" + inner) + " earn 1;");
          for (String[] ninth : OF_VALUES) {
            int left = 12 + tests * test[0].length() + (8 - tests) * value[0].length() + signOf(ninth);
            String deep = within(value, 8 - tests, within(ninth, 1, "1"));
            error("rule a when " + within(test, tests, deep + "=1") + " earn 1;", left);
            error("rule a when " + within(test, tests, "1=" + deep) + " earn 1;", left + 2);
          }
        }
      }
      for (String[] ninth : OF_TESTS) {
        String text = "rule a when " + within(test, 8, within(ninth, 1, "1=1")) + " earn 1;";
        error(text, 12 + 8 * test[0].length());
      }
    }
  }

  private static void depthOfAllParts() {
    Check.sentence("It is 0 at the beginning, and 1 greater between a ( and its ), a [ and its ], behind a - in front"
        + " (of a value) for what it turns, and behind a not for what it turns.");
    for (String[] value : OF_VALUES) {
      String deep = within(value, 8, "1");
      String rule = " when " + deep + "<" + deep + " and " + deep + "=" + deep + " earn " + deep;
      good("rule a" + rule + ";");
      good("rule a earn " + deep + "+" + deep + "*" + deep + " most " + deep + "-" + deep + "; rule b earn " + deep + ";");
      for (String[] ninth : OF_VALUES) {
        String deeper = within(value, 8, within(ninth, 1, "1"));
        int more = 8 * value[0].length() + signOf(ninth);
        error("rule a earn " + deeper + ";", 12 + more);
        error("rule a earn 1 most " + deeper + ";", 19 + more);
        error("rule a earn " + deep + "+" + deeper + ";", 13 + deep.length() + more);
        error("rule a earn " + deep + "; rule b earn " + deeper + ";", 26 + deep.length() + more);
      }
    }
    good("rule a when [not [not [not [not 1=1]]]] earn 1;");
    error("rule a when [not [not [not [not -1=1]]]] earn 1;", 32);
    error("rule a when [not [not [not [not [1=1]]]]] earn 1;", 32);
    error("rule a when [not [not [not [not not 1=1]]]] earn 1;", 32);
    error("rule a when [not [not [not [not 1=(1)]]]] earn 1;", 34);
  }

  /** What stands behind a part of the same depth is as deep as this one. */
  private static void depthBehindAPart() {
    Check.sentence("1 greater between a ( and its ), a [ and its ]");
    String[] sums = {"1+", "1-", "1*", "1/", "1+1*", "1*1-"};
    String[] opened = {"(1)", "-1", "min(1,2)", "max(1,2)"};
    for (String begin : sums) {
      for (int i = 0; i < opened.length; i++) {
        int at = begin.length() + (i < 2 ? 0 : 3);
        good("rule a earn " + within(OF_VALUES[0], 7, begin + opened[i]) + ";");
        error("rule a earn " + within(OF_VALUES[0], 8, begin + opened[i]) + ";", 20 + at);
        error("rule a earn " + within(OF_VALUES[2], 8, begin + opened[i]) + ";", 44 + at);
        error("rule a earn " + within(OF_VALUES[3], 8, begin + opened[i]) + ";", 60 + at);
        error("rule a earn 1 most " + within(OF_VALUES[0], 8, begin + opened[i]) + ";", 27 + at);
        good("rule a when " + within(OF_TESTS[0], 7, "1=" + begin + opened[i]) + " earn 1;");
        error("rule a when " + within(OF_TESTS[0], 8, "1=" + begin + opened[i]) + " earn 1;", 22 + at);
        error("rule a when " + within(OF_TESTS[0], 8, begin + opened[i] + "=1") + " earn 1;", 20 + at);
      }
    }
    String[] tests = {"1=1 or ", "1=1 and ", "1=1 or 1=1 and ", "1=1 and 1=1 or ", "1=1 or 1=1 or "};
    for (String begin : tests) {
      for (String deeper : new String[] {"[1=1]", "not 1=1", "(1)=1", "-1=1"}) {
        good("rule a when " + within(OF_TESTS[0], 7, begin + deeper) + " earn 1;");
        error("rule a when " + within(OF_TESTS[0], 8, begin + deeper) + " earn 1;", 20 + begin.length());
        good("rule a when " + within(OF_TESTS[1], 8, begin + deeper) + " earn 1;");
      }
    }
  }

  private static void depthGoesBack() {
    Check.sentence("for what it turns");
    good("rule a earn " + "(-".repeat(4) + "1" + ")".repeat(4) + "*" + "-(".repeat(4) + "1" + ")".repeat(4) + ";");
    good("rule a earn ((((((((1-1-1)+1)))))));");
    good("rule a earn (((((((-1-1))-(1))))));");
    good("rule a earn -------1-((((((((1))))))));");
    error("rule a earn ((((((((1--1))))))));", 22);
    good("rule a when not -------1=1 and --------1=1 earn 1;");
    error("rule a when not --------1=1 earn 1;", 23);
    error("rule a when not 1=--------1 earn 1;", 25);
    good("rule a when not not not not not not not not 1=1 or --------1=1 earn 1;");
    good("rule a when [[[[[[[[1=1]]]]]]]] and [[[[[[[[1=1]]]]]]]] or not[[[[[[[1=1]]]]]]] earn 1;");
    good("rule a when [[[[[[[[1=1]]]]]]] and [[[[[[[1=1]]]]]]]] earn 1;");
    error("rule a when [[[[[[[[1=1]]]]]]] and [[[[[[[[1=1]]]]]]]]] earn 1;", 42);
    good("rule a earn min((((((((1))))))),(((((((1))))))))+((((((((1))))))));");
    error("rule a earn min(1,((((((((1)))))))));", 25);
    error("rule a earn (((((((min(max(1,2),3))))))));", 26);
    Check.sentence("the (, [, - or not behind which the depth would be 9");
    error("rule a earn ((((((((min (1,2)))))))));", 24);
    error("rule a earn ((((((((min 1)))))))));", 24);
    error("rule a earn ((((((((min", 23);
  }

  private static void endOfTheTape() {
    Check.sentence("the end of the tape (at its length)");
    String[] begins = {"rule", "rule a", "rule a when", "rule a when 1", "rule a when 1=", "rule a when 1=1", "rule a earn",
        "rule a earn 1", "rule a earn 1 most", "rule a earn 1 most 2", "rule a earn 1 each", "rule a earn 1 each 3",
        "rule a earn 1 stop", "rule a earn (1", "rule a earn min(1", "rule a earn min(1,2", "rule a when [1=1", "rule a earn -",
        "rule a when not", "rule a earn 1+", "rule a earn 1*", "rule a when 1=1 and", "rule a when 1=1 or"};
    for (String begin : begins) {
      error(begin, begin.length());
      error(begin + " ", begin.length() + 1);
      error(begin + " \n\n ", begin.length() + 4);
      error("rule z earn 1;" + begin, begin.length() + 14);
      error(begin + " ".repeat(2000 - begin.length()), 2000);
      error(" ".repeat(2000 - begin.length()) + begin, 2000);
    }
    good("rule a earn 1;");
    good(" ".repeat(1986) + "rule a earn 1;");
  }

  /** A text without an error, of so many tokens, which need one byte each behind the first ones. */
  private static String textOf(int tokens) {
    boolean even = tokens % 2 == 0;
    return "rule a earn 1" + "+1".repeat((tokens - 5) / 2) + (even ? "stop" : "") + ";";
  }

  private static void tokensAtMost() {
    Check.sentence("the token that would be the 301st (the end of the tape not counted)");
    good(textOf(299));
    good(textOf(300));
    good(textOf(300) + " \n ");
    good(textOf(300) + " ".repeat(2000 - textOf(300).length()));
    error(textOf(301), textOf(301).length() - 1);
    error(textOf(302), textOf(302).length() - 5);
    error(textOf(303), textOf(303).length() - 3);
    String cut = textOf(300).substring(0, textOf(300).length() - 1);
    error(cut, cut.length());
    error(cut + ",", cut.length());
    String sum = "rule a earn 1" + "+1".repeat(148);
    error(sum, sum.length());
    error(sum + "\n ", sum.length() + 2);
    error("rule a earn 1 1" + "+1".repeat(150), 14);
    StringBuilder sixty = new StringBuilder();
    for (int i = 0; i < 60; i++) {
      sixty.append("rule n").append(i).append(" earn 1;");
    }
    Check.reads(sixty.toString(), 3, sixty.indexOf("n12"));
    error(sixty + "rule n earn 1;", sixty.length());
  }

  private static void tokenTooMany() {
    String full = textOf(300);
    for (String more : new String[] {"rule", "rule b earn 1;", "1", ";", "b", "%", "\0", "1234567", "abcdefghijk", "(", "rule a"}) {
      error(full + more, full.length());
      error(full + "\n  " + more, full.length() + 3);
    }
    String full299 = textOf(299);
    error(full299 + "rule", full299.length() + 4);
    error(full299 + "rule b", full299.length() + 5);
    error(full299 + "rule %", full299.length() + 5);
    error(full299 + "%", full299.length());
  }

  private static void firstByteOfTheError() {
    Check.sentence("The position is that of its first byte.");
    error("a", 0);
    error(" a", 1);
    error("\n\n1", 2);
    error("rule a\n  earn\n1234567", 14);
    error("rule a earn 1 2 abcdefghijk % ;", 14);
    error("rule a earn % 2 abcdefghijk", 12);
    error("rule a earn abcdefghijk %", 12);
    error("rule a earn 1 <= 2;", 14);
    error("rule a when 1 earn 1; rule rule", 14);
    error(" ".repeat(1999) + "a", 1999);
    error(" ".repeat(1999) + "%", 1999);
    error(" ".repeat(1996) + "rule", 2000);
    error("rule a earn 1" + " ".repeat(1981) + "1stop;", 1994);
    error("rule a earn 1 most" + " ".repeat(1980) + "<=", 1998);
  }

  private static String rule(String name) {
    return "rule " + name + " earn 1;";
  }

  /** So many rules, of 14 bytes each, whose names are the letters from a on. */
  private static String rules(int count) {
    StringBuilder text = new StringBuilder();
    for (int i = 0; i < count; i++) {
      text.append(rule(String.valueOf((char) ('a' + i))));
    }
    return text.toString();
  }

  private static void namesToldAhead() {
    Check.sentence("error 2: the name of a rule that was told ahead");
    good(rule("a") + rule("b"));
    Check.reads(rule("a") + rule("a"), 2, 19);
    Check.reads(rule("a") + "rule \n a earn 1;", 2, 21);
    Check.reads(rule("a") + "rule a\nearn 1;", 2, 19);
    Check.reads(rule("abcdefghij") + "rule abcdefghij\nwhen 1=1 earn 1;", 2, 28);
    Check.reads(rules(12).replace("rule l", "rule a"), 2, 159);
    Check.reads(rules(12).replace("rule l", "rule k"), 2, 159);
    Check.reads(rule("abcdefghij") + rule("abcdefghij"), 2, 28);
    good(rule("abcdefghij") + rule("abcdefghi") + rule("abcdefghik") + rule("bbcdefghij") + rule("abcdxfghij"));
    good(rule("a1") + rule("a") + rule("a11") + rule("a01"));
    Check.sentence("the names of rules are looked at from left to right, and the first error is told");
    Check.reads(rule("a") + rule("b") + rule("b") + rule("a"), 2, 33);
    Check.reads(rule("a") + rule("a") + rule("a"), 2, 19);
    PointHouse house = Check.houseWith(rule("a"), 0);
    Check.due("the name of a rule that was taught ahead", Check.teach(house, rule("a")), 0);
  }

  private static void thirteenRules() {
    Check.sentence("error 3: the name of the 13th rule (if it is error 2, too, that one is told)");
    good(rules(11));
    good(rules(12));
    Check.reads(rules(13), 3, 173);
    Check.reads(rules(14), 3, 173);
    Check.reads(rules(12) + rule("a"), 2, 173);
    Check.reads(rules(12) + rule("l"), 2, 173);
    Check.reads(rules(13) + rule("a"), 3, 173);
    Check.reads(rules(13) + rule("m"), 3, 173);
    Check.reads(rules(11) + rule("k") + rule("m"), 2, 159);
    PointHouse house = new PointHouse();
    Check.teach(house, rules(12));
    Check.due("rules", house.count(1), 12);
    Check.due("teach of 13", Check.teach(house, rules(13)), 3);
    Check.due("rules", house.count(1), 12);
  }

  private static void namesOnlyWithoutErrorOne() {
    Check.sentence("Only if there is no error 1, the names of rules are looked at");
    error(rule("a") + rule("a") + "rule", 32);
    error(rule("a") + rule("a") + "%", 28);
    error(rules(13) + "rule n earn 1", 195);
    error(rules(13) + "rule rule", 187);
    error(rule("a") + "rule a earn;", 25);
    error(rules(12) + "rule m", 174);
    error(rules(12) + "rule a earn", 179);
  }

  private static void teachWithAnError() {
    Check.sentence("If it has an error, all stays (but the tape is empty).");
    String kept = "rule p earn amount each 50; rule q when nth = 1 earn 3 stop; rule r earn 7;";
    String[] texts = {"rule p earn 1", "%", "rule p earn 1; rule p earn 2;", rules(13), rules(12) + rule("a")};
    int[] errors = {1, 1, 2, 3, 2};
    for (int i = 0; i < texts.length; i++) {
      PointHouse house = Check.houseWith(kept, 1);
      Check.due("would", house.would(0, 0, 20), 23);
      Check.due("teach of " + texts[i], Check.teach(house, texts[i]), errors[i]);
      Check.due("rules", house.count(1), 3);
      Check.due("would", house.would(0, 0, 20), 23);
      Check.due("buy", house.buy(0, 0, 45), 48);
      Check.due("teach of " + texts[i], Check.teach(house, texts[i]), errors[i]);
      Check.due("would", house.would(0, 0, 20), 12);
      Check.due("teach of a good one", Check.teach(house, "rule x earn 2;"), 0);
      Check.due("would", house.would(0, 0, 20), 2);
      Check.due("teach of nothing", house.teach(), 0);
      Check.due("would", house.would(0, 0, 20), 0);
    }
  }

  private static void inThePlaceOfThose() {
    Check.sentence("Reads the tape as rules, in the place of those that were there");
    PointHouse house = new PointHouse();
    house.addPartner(100, 1);
    house.join(-1);
    for (int i = 0; i < 8; i++) {
      Check.due("teach of 300 tokens", Check.teach(house, textOf(300)), 0);
      Check.due("would", house.would(0, 0, 1), 148);
      Check.due("rules", house.count(1), 1);
    }
    Check.due("teach of 12", Check.teach(house, rules(12)), 0);
    Check.due("rules", house.count(1), 12);
    Check.due("would", house.would(0, 0, 1), 12);
    Check.due("teach of one", Check.teach(house, "rule m earn 5;"), 0);
    Check.due("rules", house.count(1), 1);
    Check.due("would", house.would(0, 0, 1), 5);
    Check.due("teach of nothing", house.teach(), 0);
    Check.due("rules", house.count(1), 0);
    Check.due("would", house.would(0, 0, 1), 0);
  }

  private static void errorOfTheLatest() {
    Check.sentence("Returns the position of the error of the latest teach(); -1 if it had none, or there was none.");
    PointHouse house = new PointHouse();
    Check.due("errorAt()", house.errorAt(), -1);
    Check.due("errorAt() of an error at 0", Check.teach(house, "a") * 1000 + house.errorAt(), 1000);
    Check.feedText(house, "rule a earn 1;");
    house.trim(14);
    Check.noArgument("trim(15)", () -> house.trim(15));
    Check.due("errorAt() ahead of the next teach()", house.errorAt(), 0);
    Check.due("errorAt() behind a good one", house.teach() * 1000 + house.errorAt(), -1);
    Check.due("errorAt() of error 2", Check.teach(house, rule("a") + rule("a")) * 1000 + house.errorAt(), 2019);
    Check.due("errorAt() of error 3", Check.teach(house, rules(13)) * 1000 + house.errorAt(), 3173);
    Check.due("errorAt() of nothing", house.teach() * 1000 + house.errorAt(), -1);
    PointHouse full = fed(99);
    Check.feedText(full, "                rule");
    Check.due("errorAt() at the end of a full tape", full.teach() * 10000 + full.errorAt(), 12000);
  }
}
