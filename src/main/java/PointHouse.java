import java.util.Arrays;

/** A scheme of points for those who buy often. */
public final class PointHouse {
  private static final int MAX_TAPE = 2000;
  private static final int FEED_BYTES = 20;
  private static final int MAX_TOKENS = 300;
  private static final int MAX_WORD = 10;
  private static final int MAX_DIGITS = 6;
  private static final int MAX_DEPTH = 8;
  private static final int MAX_RULES = 12;
  /** The shortest rule, such as rule a earn 1; has five tokens. */
  private static final int MAX_RULES_READ = MAX_TOKENS / 5;

  private static final int MAX_PARTNERS = 6;
  private static final int MAX_HOUSEHOLDS = 6;
  private static final int MAX_MEMBERS = 16;
  private static final int MAX_REWARDS = 10;
  private static final int MAX_DEALS = 100;
  /** A transaction makes one lot at most. */
  private static final int MAX_LOTS = MAX_DEALS;

  private static final int MAX_EARNED = 1000000;
  private static final int MAX_AMOUNT = 10000;
  private static final int MAX_STOCK = 99;
  private static final int MAX_TIER = 3;
  private static final int PERIOD = 30;
  private static final int SCORE_DAYS = 89;
  private static final int BACK_DAYS = 60;
  private static final int WHEN_DAYS = 120;
  /** A line of a statement has at most 30 bytes, also with the greatest numbers. */
  private static final int MAX_PAPER = 32 * (MAX_DEALS + 1);
  private static final int GREATEST_UNIT = 1000000000;

  /** Members whose lots are looked at together are told as a set of bits. */
  private static final int ALL_MEMBERS = (1 << MAX_MEMBERS) - 1;

  private static final int PURCHASE = 0;
  private static final int REWARD = 1;
  private static final int GIFT = 2;

  private static final int COUNTS = 13;
  private static final int MEMBER_FACTS = 9;
  private static final int REWARD_FACTS = 4;
  private static final int DEAL_FACTS = 7;
  private static final int LOT_FACTS = 5;

  // The signs of the language. Keywords and symbols are numbered in the order of the two texts
  // below, so that a sign is found by its place there; what is reckoned keeps its sign as its code.
  private static final String KEYWORDS =
      "rule when earn most each stop and or not min max amount partner tier day weekday balance nth members owed ";
  private static final String SYMBOLS = "()[];,+-*/<>=";
  private static final int END = 0;
  private static final int BAD = 1;
  private static final int NUMBER = 2;
  private static final int NAME = 3;
  private static final int RULE = 4;
  private static final int WHEN = 5;
  private static final int EARN = 6;
  private static final int MOST = 7;
  private static final int EACH = 8;
  private static final int STOP = 9;
  private static final int AND = 10;
  private static final int OR = 11;
  private static final int NOT = 12;
  private static final int MIN = 13;
  private static final int MAX = 14;
  private static final int AMOUNT = 15;
  private static final int PARTNER = 16;
  private static final int TIER = 17;
  private static final int DAY = 18;
  private static final int WEEKDAY = 19;
  private static final int BALANCE = 20;
  private static final int NTH = 21;
  private static final int MEMBERS = 22;
  private static final int OWED = 23;
  private static final int OPEN = 24;
  private static final int CLOSE = 25;
  private static final int OPEN_TEST = 26;
  private static final int CLOSE_TEST = 27;
  private static final int SEMICOLON = 28;
  private static final int COMMA = 29;
  private static final int PLUS = 30;
  private static final int MINUS = 31;
  private static final int TIMES = 32;
  private static final int OVER = 33;
  private static final int LESS = 34;
  private static final int GREATER = 35;
  private static final int EQUAL = 36;
  private static final int LESS_EQUAL = 37;
  private static final int GREATER_EQUAL = 38;
  private static final int NEGATE = 39;

  private final Parser parser = new Parser();
  private final Ledger ledger = new Ledger();
  private final byte[] paper = new byte[MAX_PAPER];
  private int paperLength;
  private Rules rules = new Rules();
  private int errorPosition = -1;

  public PointHouse() {
  }

  // ---- rules

  public int feed(int a, int b, int c, int d, int e) throws IllegalStateException {
    Tape tape = parser.tape;
    if (tape.length > MAX_TAPE - FEED_BYTES) {
      throw new IllegalStateException("the tape would be too long");
    }
    tape.append(a);
    tape.append(b);
    tape.append(c);
    tape.append(d);
    tape.append(e);
    return tape.length;
  }

  public int trim(int n) throws IllegalArgumentException {
    if (n < 0 || n > parser.tape.length) {
      throw new IllegalArgumentException("the tape has not so many bytes");
    }
    parser.tape.length = n;
    return n;
  }

  public int teach() {
    int error = parser.parse();
    errorPosition = parser.errorPosition;
    if (error == 0) {
      rules = parser.exchange(rules);
    }
    parser.tape.length = 0;
    return error;
  }

  public int errorAt() {
    return errorPosition;
  }

  // ---- partners, households, members, rewards

  public int addPartner(int factor, int life) throws IllegalArgumentException, IllegalStateException {
    if (factor < 10 || factor > 300 || life < 1 || life > 400) {
      throw new IllegalArgumentException("no such factor or life");
    }
    if (ledger.partnerCount >= MAX_PARTNERS) {
      throw new IllegalStateException("there are enough partners");
    }
    int number = ledger.partnerCount;
    ledger.factors[number] = factor;
    ledger.lives[number] = life;
    ledger.partnerCount = number + 1;
    return number;
  }

  public int addHousehold() throws IllegalStateException {
    if (ledger.householdCount >= MAX_HOUSEHOLDS) {
      throw new IllegalStateException("there are enough households");
    }
    int number = ledger.householdCount;
    ledger.householdCount = number + 1;
    return number;
  }

  public int join(int household) throws IndexOutOfBoundsException, IllegalStateException {
    checkHousehold(household);
    if (ledger.memberCount >= MAX_MEMBERS) {
      throw new IllegalStateException("there are enough members");
    }
    int number = ledger.memberCount;
    ledger.members[number].household = household;
    ledger.memberCount = number + 1;
    return number;
  }

  public int move(int member, int household) throws IndexOutOfBoundsException {
    checkMember(member);
    checkHousehold(household);
    Member mover = ledger.members[member];
    int before = mover.household;
    mover.household = household;
    return before;
  }

  public int addReward(int cost, int stock, int tier) throws IllegalArgumentException, IllegalStateException {
    if (cost < 1 || cost > 20000 || stock < 0 || stock > MAX_STOCK || tier < 0 || tier > MAX_TIER) {
      throw new IllegalArgumentException("no such cost, stock or tier");
    }
    if (ledger.rewardCount >= MAX_REWARDS) {
      throw new IllegalStateException("there are enough rewards");
    }
    int number = ledger.rewardCount;
    Reward fresh = ledger.rewards[number];
    fresh.cost = cost;
    fresh.stock = stock;
    fresh.tier = tier;
    ledger.rewardCount = number + 1;
    return number;
  }

  public int reward(int reward, int what) throws IndexOutOfBoundsException {
    checkReward(reward);
    checkWhat(what, REWARD_FACTS);
    Reward told = ledger.rewards[reward];
    switch (what) {
      case 0: return told.cost;
      case 1: return told.stock;
      case 2: return told.tier;
      default: return told.taken;
    }
  }

  public int member(int member, int what) throws IndexOutOfBoundsException {
    checkMember(member);
    checkWhat(what, MEMBER_FACTS);
    Member told = ledger.members[member];
    switch (what) {
      case 0: return told.household;
      case 1: return told.tier;
      case 2: return ledger.balance(member);
      case 3: return told.owed;
      case 4: return ledger.score(member);
      case 5: return ledger.ownTier(member);
      case 6: return ledger.purchases(member);
      case 7: return ledger.lots.expiredOf(maskOf(member));
      default: return ledger.lots.filledOf(member);
    }
  }

  // ---- transactions

  public int buy(int member, int partner, int amount)
      throws IndexOutOfBoundsException, IllegalArgumentException, IllegalStateException {
    checkMember(member);
    checkPartner(partner);
    checkAmount(amount);
    checkRoomForDeal();
    return ledger.purchase(rules, member, partner, amount);
  }

  public int take(int member, int reward) throws IndexOutOfBoundsException, IllegalStateException {
    checkMember(member);
    checkReward(reward);
    checkRoomForDeal();
    if (!ledger.canTake(member, reward)) {
      throw new IllegalStateException("the reward cannot be taken");
    }
    return ledger.redeem(member, reward);
  }

  public int give(int from, int to, int points)
      throws IndexOutOfBoundsException, IllegalArgumentException, IllegalStateException {
    checkMember(from);
    checkMember(to);
    if (from == to || points < 1) {
      throw new IllegalArgumentException("no such gift");
    }
    checkRoomForDeal();
    if (ledger.members[from].owed > 0 || ledger.balance(from) < points) {
      throw new IllegalStateException("the points cannot be given");
    }
    return ledger.donate(from, to, points);
  }

  public int takeBack(int transaction) throws IndexOutOfBoundsException, IllegalStateException {
    checkDeal(transaction);
    Deal deal = ledger.deals[transaction];
    if (deal.kind == GIFT || deal.back || ledger.day - deal.day > BACK_DAYS) {
      throw new IllegalStateException("it cannot be taken back");
    }
    deal.back = true;
    if (deal.kind == PURCHASE) {
      ledger.undoPurchase(deal);
    } else {
      ledger.undoReward(deal);
    }
    return ledger.members[deal.member].owed;
  }

  public int transaction(int transaction, int what) throws IndexOutOfBoundsException {
    checkDeal(transaction);
    checkWhat(what, DEAL_FACTS);
    Deal told = ledger.deals[transaction];
    switch (what) {
      case 0: return told.kind;
      case 1: return told.member;
      case 2: return told.other;
      case 3: return told.points;
      case 4: return told.day;
      case 5: return told.back ? 1 : 0;
      default: return told.lot;
    }
  }

  public int lot(int lot, int what) throws IndexOutOfBoundsException {
    if (lot < 0 || lot >= ledger.lots.count) {
      throw new IndexOutOfBoundsException("no such lot");
    }
    checkWhat(what, LOT_FACTS);
    Lot told = ledger.lots.rows[lot];
    switch (what) {
      case 0: return told.owner;
      case 1: return told.left;
      case 2: return told.expires;
      case 3: return told.first;
      default: return told.expired;
    }
  }

  // ---- days

  public int pass(int days) throws IllegalArgumentException {
    if (days < 1 || days > 200) {
      throw new IllegalArgumentException("so many days cannot go by");
    }
    int expired = 0;
    for (int i = 0; i < days; i++) {
      expired += ledger.nextDay();
    }
    return expired;
  }

  public int count(int what) throws IndexOutOfBoundsException {
    checkWhat(what, COUNTS);
    switch (what) {
      case 0: return ledger.day;
      case 1: return rules.count;
      case 2: return ledger.partnerCount;
      case 3: return ledger.householdCount;
      case 4: return ledger.memberCount;
      case 5: return ledger.rewardCount;
      case 6: return ledger.dealCount;
      case 7: return ledger.lots.count;
      case 8: return ledger.lots.leftOf(ALL_MEMBERS);
      case 9: return ledger.owedByAll();
      case 10: return ledger.lots.expiredOf(ALL_MEMBERS);
      case 11: return parser.tape.length;
      default: return paperLength;
    }
  }

  // ---- what would be

  public int would(int member, int partner, int amount) throws IndexOutOfBoundsException, IllegalArgumentException {
    checkMember(member);
    checkPartner(partner);
    checkAmount(amount);
    return ledger.earned(rules, member, partner, amount, ledger.spareGiven);
  }

  public int expiring(int member, int days) throws IndexOutOfBoundsException, IllegalArgumentException {
    checkMember(member);
    if (days < 0 || days > 400) {
      throw new IllegalArgumentException("no such number of days");
    }
    return ledger.lots.leftUntil(member, ledger.day + days);
  }

  public int affords(int member) throws IndexOutOfBoundsException {
    checkMember(member);
    int best = -1;
    int bestCost = 0;
    for (int i = 0; i < ledger.rewardCount; i++) {
      int cost = ledger.rewards[i].cost;
      if (cost > bestCost && ledger.canTake(member, i)) {
        best = i;
        bestCost = cost;
      }
    }
    return best;
  }

  public int spend(int member) throws IndexOutOfBoundsException {
    checkMember(member);
    int balance = ledger.balance(member);
    int best = 0;
    for (int choice = 0; choice < 1 << ledger.rewardCount; choice++) {
      int cost = ledger.costOf(choice, ledger.members[member].tier);
      if (cost > best && cost <= balance) {
        best = cost;
      }
    }
    return best;
  }

  public int when(int member, int reward, int partner, int amount, int every)
      throws IndexOutOfBoundsException, IllegalArgumentException {
    checkMember(member);
    checkReward(reward);
    checkPartner(partner);
    checkAmount(amount);
    if (every < 1 || every > 60) {
      throw new IllegalArgumentException("no such number of days");
    }
    ledger.keep();
    int days = ledger.daysUntil(rules, member, reward, partner, amount, every);
    ledger.restore();
    return days;
  }

  // ---- statements

  public int state(int member) throws IndexOutOfBoundsException {
    checkMember(member);
    paperLength = 0;
    for (int i = 0; i < ledger.dealCount; i++) {
      Deal deal = ledger.deals[i];
      if (deal.member == member) {
        writeLine(deal, deal.kind == PURCHASE ? '+' : '-', deal.points);
      } else if (deal.kind == GIFT && deal.other == member) {
        writeLine(deal, '+', giftOf(deal.points));
      }
    }
    writeNumber(ledger.balance(member));
    writeByte(' ');
    writeNumber(ledger.members[member].owed);
    writeByte(' ');
    writeNumber(ledger.members[member].tier);
    writeByte('\n');
    return paperLength;
  }

  public int byteAt(int index) throws IndexOutOfBoundsException {
    if (index < 0 || index >= paperLength) {
      throw new IndexOutOfBoundsException("no such place on the paper");
    }
    return paper[index];
  }

  public double breakage() {
    int first = ledger.lots.firstOfAll();
    if (first == 0) {
      return 0;
    }
    return (double) ledger.lots.expiredOf(ALL_MEMBERS) / (double) first;
  }

  public long digest() {
    long d = 643;
    for (int what = 0; what < COUNTS; what++) {
      d = d * 31 + count(what);
    }
    for (int i = 0; i < ledger.partnerCount; i++) {
      d = d * 31 + ledger.factors[i];
      d = d * 31 + ledger.lives[i];
    }
    for (int i = 0; i < ledger.memberCount; i++) {
      for (int what = 0; what < MEMBER_FACTS; what++) {
        d = d * 31 + member(i, what);
      }
    }
    for (int i = 0; i < ledger.rewardCount; i++) {
      for (int what = 0; what < REWARD_FACTS; what++) {
        d = d * 31 + reward(i, what);
      }
    }
    for (int i = 0; i < ledger.dealCount; i++) {
      for (int what = 0; what < DEAL_FACTS; what++) {
        d = d * 31 + transaction(i, what);
      }
    }
    for (int i = 0; i < ledger.lots.count; i++) {
      for (int what = 0; what < LOT_FACTS; what++) {
        d = d * 31 + lot(i, what);
      }
    }
    for (int i = 0; i < paperLength; i++) {
      d = d * 31 + paper[i];
    }
    return d;
  }

  private void writeLine(Deal deal, char sign, int points) {
    char letter = deal.kind == PURCHASE ? 'B' : deal.kind == REWARD ? 'T' : 'G';
    writeNumber(deal.day);
    writeByte(' ');
    writeByte(letter);
    writeByte(' ');
    writeByte(sign);
    writeNumber(points);
    if (deal.back) {
      writeByte(' ');
      writeByte('x');
    }
    writeByte('\n');
  }

  /** No number on the paper is below 0. */
  private void writeNumber(int number) {
    for (int unit = GREATEST_UNIT; unit > 0; unit /= 10) {
      if (number >= unit || unit == 1) {
        writeByte((char) ('0' + number / unit % 10));
      }
    }
  }

  private void writeByte(char sign) {
    if (paperLength < MAX_PAPER) {
      paper[paperLength] = (byte) sign;
      paperLength++;
    }
  }

  private void checkMember(int member) {
    if (member < 0 || member >= ledger.memberCount) {
      throw new IndexOutOfBoundsException("no such member");
    }
  }

  private void checkPartner(int partner) {
    if (partner < 0 || partner >= ledger.partnerCount) {
      throw new IndexOutOfBoundsException("no such partner");
    }
  }

  private void checkHousehold(int household) {
    if (household < -1 || household >= ledger.householdCount) {
      throw new IndexOutOfBoundsException("no such household");
    }
  }

  private void checkReward(int reward) {
    if (reward < 0 || reward >= ledger.rewardCount) {
      throw new IndexOutOfBoundsException("no such reward");
    }
  }

  private void checkDeal(int transaction) {
    if (transaction < 0 || transaction >= ledger.dealCount) {
      throw new IndexOutOfBoundsException("no such transaction");
    }
  }

  private static void checkWhat(int what, int facts) {
    if (what < 0 || what >= facts) {
      throw new IndexOutOfBoundsException("nothing is told by this number");
    }
  }

  private static void checkAmount(int amount) {
    if (amount < 1 || amount > MAX_AMOUNT) {
      throw new IllegalArgumentException("no such amount");
    }
  }

  private void checkRoomForDeal() {
    if (ledger.dealCount >= MAX_DEALS) {
      throw new IllegalStateException("there are enough transactions");
    }
  }

  private static int maskOf(int member) {
    return 1 << member;
  }

  private static int giftOf(int points) {
    return (int) ((long) points * 9 / 10);
  }

  /** The tape, and the tokens that were last found on it. */
  private static final class Tape {
    final byte[] bytes = new byte[MAX_TAPE];
    int length;
    /** The last sign found is END or BAD, and may stand behind as many tokens as there can be. */
    final int[] signs = new int[MAX_TOKENS + 1];
    final int[] starts = new int[MAX_TOKENS + 1];
    /** What a number says, and how long a word is. */
    final int[] values = new int[MAX_TOKENS + 1];
    private int sign;
    private int value;
    private int to;

    void append(int four) {
      for (int shift = 24; shift >= 0 && length < MAX_TAPE; shift -= 8) {
        bytes[length] = (byte) (four >> shift);
        length++;
      }
    }

    void findTokens() {
      to = 0;
      sign = NAME;
      for (int i = 0; i <= MAX_TOKENS && sign != END && sign != BAD; i++) {
        skipBlanks();
        starts[i] = to;
        findToken();
        if (i == MAX_TOKENS && sign != END) {
          sign = BAD;
        }
        signs[i] = sign;
        values[i] = value;
      }
    }

    private void skipBlanks() {
      while (to < length && (bytes[to] == ' ' || bytes[to] == '\n')) {
        to++;
      }
    }

    private void findToken() {
      if (to >= length) {
        sign = END;
      } else if (isLetter(bytes[to])) {
        findWord();
      } else if (isDigit(bytes[to])) {
        findNumber();
      } else {
        findSymbol();
      }
    }

    private void findWord() {
      int from = to;
      while (to < length && (isLetter(bytes[to]) || isDigit(bytes[to]))) {
        to++;
      }
      value = to - from;
      sign = value > MAX_WORD ? BAD : signOfWord(from);
    }

    private int signOfWord(int from) {
      int keyword = RULE;
      int begin = 0;
      for (int i = 0; i < KEYWORDS.length(); i++) {
        if (KEYWORDS.charAt(i) == ' ') {
          if (i - begin == value && isKeyword(begin, i, from)) {
            return keyword;
          }
          keyword++;
          begin = i + 1;
        }
      }
      return NAME;
    }

    private boolean isKeyword(int begin, int end, int from) {
      for (int i = 0; begin + i < end && from + i < length; i++) {
        if (KEYWORDS.charAt(begin + i) != bytes[from + i]) {
          return false;
        }
      }
      return true;
    }

    private void findNumber() {
      int from = to;
      value = 0;
      while (to < length && isDigit(bytes[to])) {
        value = value * 10 + (bytes[to] - '0');
        to++;
      }
      sign = to - from > MAX_DIGITS ? BAD : NUMBER;
    }

    private void findSymbol() {
      int place = SYMBOLS.indexOf((char) (bytes[to] & 255));
      sign = place < 0 ? BAD : OPEN + place;
      to++;
      boolean canGrow = sign == LESS || sign == GREATER;
      if (canGrow && to < length && bytes[to] == '=') {
        sign = sign == LESS ? LESS_EQUAL : GREATER_EQUAL;
        to++;
      }
    }

    boolean isSameText(int first, int second, int size) {
      if (first < 0 || second < 0 || first > length - size || second > length - size) {
        return false;
      }
      for (int i = 0; i < size; i++) {
        if (bytes[first + i] != bytes[second + i]) {
          return false;
        }
      }
      return true;
    }

    private static boolean isLetter(byte b) {
      return b >= 'a' && b <= 'z';
    }

    private static boolean isDigit(byte b) {
      return b >= '0' && b <= '9';
    }
  }

  /** One rule: where its name stood on the tape, and where its parts stand in the code. */
  private static final class Rule {
    int nameFrom;
    int nameLength;
    int testFrom;
    int earnFrom;
    int mostFrom;
    int end;
    int each;
    boolean stops;
  }

  /** Rules, reckoned from codes in which what is to be joined stands ahead of what joins it. */
  private static final class Rules {
    final int[] codes = new int[MAX_TOKENS];
    final int[] numbers = new int[MAX_TOKENS];
    final Rule[] rows = new Rule[MAX_RULES_READ];
    int size;
    int count;

    Rules() {
      for (int i = 0; i < MAX_RULES_READ; i++) {
        rows[i] = new Rule();
      }
    }

    void emit(int code, int number) {
      if (size < MAX_TOKENS) {
        codes[size] = code;
        numbers[size] = number;
        size++;
      }
    }
  }

  /**
   * Reads the tape. Each read method answers whether its part stood there, and leaves the place
   * behind it, or else at the token that is the error.
   */
  private static final class Parser {
    final Tape tape = new Tape();
    int errorPosition = -1;
    private Rules draft = new Rules();
    private int at;

    int parse() {
      tape.findTokens();
      at = 0;
      draft.size = 0;
      draft.count = 0;
      if (!readText()) {
        return tellError(1, tape.starts[at]);
      }
      return checkNames();
    }

    /** Hands out the rules that were read, and takes others to write the next ones over. */
    Rules exchange(Rules old) {
      Rules ready = draft;
      draft = old;
      return ready;
    }

    private int tellError(int error, int position) {
      errorPosition = position;
      return error;
    }

    private int checkNames() {
      for (int i = 0; i < draft.count; i++) {
        if (isToldAhead(i)) {
          return tellError(2, draft.rows[i].nameFrom);
        }
        if (i >= MAX_RULES) {
          return tellError(3, draft.rows[i].nameFrom);
        }
      }
      return tellError(0, -1);
    }

    private boolean isToldAhead(int place) {
      Rule rule = draft.rows[place];
      for (int i = 0; i < place; i++) {
        Rule other = draft.rows[i];
        if (other.nameLength == rule.nameLength
            && tape.isSameText(other.nameFrom, rule.nameFrom, rule.nameLength)) {
          return true;
        }
      }
      return false;
    }

    private boolean readText() {
      for (int i = 0; i < MAX_RULES_READ && tape.signs[at] == RULE; i++) {
        if (!readRule(draft.rows[i])) {
          return false;
        }
        draft.count = i + 1;
      }
      return tape.signs[at] == END;
    }

    private boolean readRule(Rule rule) {
      if (!skip(RULE)) {
        return false;
      }
      rule.nameFrom = tape.starts[at];
      rule.nameLength = tape.values[at];
      if (!skip(NAME)) {
        return false;
      }
      rule.testFrom = draft.size;
      if (skip(WHEN) && !readTest(0)) {
        return false;
      }
      rule.earnFrom = draft.size;
      if (!skip(EARN) || !readSum(0)) {
        return false;
      }
      rule.mostFrom = draft.size;
      if (skip(MOST) && !readSum(0)) {
        return false;
      }
      rule.end = draft.size;
      rule.each = -1;
      if (skip(EACH)) {
        rule.each = tape.values[at];
        if (!skip(NUMBER)) {
          return false;
        }
      }
      rule.stops = skip(STOP);
      return skip(SEMICOLON);
    }

    private boolean readTest(int depth) {
      if (!readBoth(depth)) {
        return false;
      }
      for (int i = 0; i < MAX_TOKENS && skip(OR); i++) {
        if (!readBoth(depth)) {
          return false;
        }
        draft.emit(OR, 0);
      }
      return true;
    }

    private boolean readBoth(int depth) {
      if (!readSingle(depth)) {
        return false;
      }
      for (int i = 0; i < MAX_TOKENS && skip(AND); i++) {
        if (!readSingle(depth)) {
          return false;
        }
        draft.emit(AND, 0);
      }
      return true;
    }

    private boolean readSingle(int depth) {
      int sign = tape.signs[at];
      if (sign == NOT) {
        if (depth >= MAX_DEPTH || !skip(NOT) || !readSingle(depth + 1)) {
          return false;
        }
        draft.emit(NOT, 0);
        return true;
      }
      if (sign == OPEN_TEST) {
        return depth < MAX_DEPTH && skip(OPEN_TEST) && readTest(depth + 1) && skip(CLOSE_TEST);
      }
      return readComparison(depth);
    }

    private boolean readComparison(int depth) {
      if (!readSum(depth)) {
        return false;
      }
      int comparison = tape.signs[at];
      if (comparison < LESS || comparison > GREATER_EQUAL || !skip(comparison) || !readSum(depth)) {
        return false;
      }
      draft.emit(comparison, 0);
      return true;
    }

    private boolean readSum(int depth) {
      if (!readProduct(depth)) {
        return false;
      }
      for (int i = 0; i < MAX_TOKENS; i++) {
        int operator = tape.signs[at];
        if (operator != PLUS && operator != MINUS) {
          return true;
        }
        if (!skip(operator) || !readProduct(depth)) {
          return false;
        }
        draft.emit(operator, 0);
      }
      return true;
    }

    private boolean readProduct(int depth) {
      if (!readValue(depth)) {
        return false;
      }
      for (int i = 0; i < MAX_TOKENS; i++) {
        int operator = tape.signs[at];
        if (operator != TIMES && operator != OVER) {
          return true;
        }
        if (!skip(operator) || !readValue(depth)) {
          return false;
        }
        draft.emit(operator, 0);
      }
      return true;
    }

    private boolean readValue(int depth) {
      int sign = tape.signs[at];
      if (sign == NUMBER || sign >= AMOUNT && sign <= OWED) {
        draft.emit(sign, tape.values[at]);
        return skip(sign);
      }
      if (sign == MIN || sign == MAX) {
        return readChoice(sign, depth);
      }
      if (depth >= MAX_DEPTH) {
        return false;
      }
      if (sign == MINUS) {
        if (!skip(MINUS) || !readValue(depth + 1)) {
          return false;
        }
        draft.emit(NEGATE, 0);
        return true;
      }
      return skip(OPEN) && readSum(depth + 1) && skip(CLOSE);
    }

    private boolean readChoice(int choice, int depth) {
      if (!skip(choice) || depth >= MAX_DEPTH || !skip(OPEN)) {
        return false;
      }
      if (!readSum(depth + 1) || !skip(COMMA) || !readSum(depth + 1) || !skip(CLOSE)) {
        return false;
      }
      draft.emit(choice, 0);
      return true;
    }

    /** The last token is never skipped, so that there is always one to look at. */
    private boolean skip(int sign) {
      if (tape.signs[at] != sign || at >= MAX_TOKENS) {
        return false;
      }
      at++;
      return true;
    }
  }

  /** Reckons parts of rules for one purchase, of which it is told ahead. */
  private static final class Reckoner {
    private final int[] facts = new int[OWED - AMOUNT + 1];
    private final int[] stack = new int[MAX_TOKENS];

    void tell(int fact, int value) {
      if (fact >= AMOUNT && fact <= OWED) {
        facts[fact - AMOUNT] = value;
      }
    }

    /** Tests give 1 if they hold, else 0. */
    int value(Rules rules, int from, int to) {
      int top = 0;
      for (int i = from; i >= 0 && i < to && i < MAX_TOKENS; i++) {
        int code = rules.codes[i];
        if (code == NUMBER || code >= AMOUNT && code <= OWED) {
          if (top < MAX_TOKENS) {
            stack[top] = code == NUMBER ? rules.numbers[i] : facts[code - AMOUNT];
            top++;
          }
        } else if (code == NEGATE || code == NOT) {
          if (top >= 1) {
            stack[top - 1] = code == NEGATE ? -stack[top - 1] : 1 - stack[top - 1];
          }
        } else if (top >= 2) {
          top--;
          stack[top - 1] = joined(code, stack[top - 1], stack[top]);
        }
      }
      return stack[0];
    }

    private static int joined(int code, int left, int right) {
      switch (code) {
        case PLUS: return left + right;
        case MINUS: return left - right;
        case TIMES: return left * right;
        case OVER: return right == 0 ? 0 : left / right;
        case MIN: return Math.min(left, right);
        case MAX: return Math.max(left, right);
        case AND: return left & right;
        case OR: return left | right;
        case LESS: return left < right ? 1 : 0;
        case GREATER: return left > right ? 1 : 0;
        case EQUAL: return left == right ? 1 : 0;
        case LESS_EQUAL: return left <= right ? 1 : 0;
        default: return left >= right ? 1 : 0;
      }
    }
  }

  private static final class Member {
    int household;
    int tier;
    int owed;
    int keptTier;
    int keptOwed;
  }

  private static final class Reward {
    int cost;
    int stock;
    int tier;
    int taken;
  }

  /** A transaction: other is the partner, the reward, or the member who got. */
  private static final class Deal {
    int kind;
    int member;
    int other;
    int points;
    int day;
    boolean back;
    int lot;
    /** What the rule at each place gave for a purchase. */
    final int[] given = new int[MAX_RULES];
    /** What was taken from each lot for a reward. */
    final int[] drawn = new int[MAX_LOTS];
  }

  private static final class Lot {
    int owner;
    int left;
    int expires;
    int first;
    int expired;
    int keptLeft;
    int keptExpired;

    int expire() {
      int points = left;
      expired += points;
      left = 0;
      return points;
    }
  }

  /** All lots. Owners are told as a set of bits. */
  private static final class Lots {
    final Lot[] rows = new Lot[MAX_LOTS];
    /** What was taken from each lot since it was last forgotten. */
    final int[] drawn = new int[MAX_LOTS];
    int count;
    private int keptCount;

    Lots() {
      for (int i = 0; i < MAX_LOTS; i++) {
        rows[i] = new Lot();
      }
    }

    /** The number of the new lot; -1 if there is none, as it would have no points. */
    int add(int owner, int points, int expires) {
      if (points <= 0 || count >= MAX_LOTS) {
        return -1;
      }
      Lot lot = rows[count];
      lot.owner = owner;
      lot.left = points;
      lot.expires = expires;
      lot.first = points;
      lot.expired = 0;
      count++;
      return count - 1;
    }

    int leftOf(int owners) {
      int points = 0;
      for (int i = 0; i < count; i++) {
        if (isOf(rows[i], owners)) {
          points += rows[i].left;
        }
      }
      return points;
    }

    int leftUntil(int owner, int day) {
      int points = 0;
      for (int i = 0; i < count; i++) {
        if (rows[i].owner == owner && rows[i].expires <= day) {
          points += rows[i].left;
        }
      }
      return points;
    }

    int filledOf(int owner) {
      int filled = 0;
      for (int i = 0; i < count; i++) {
        if (rows[i].owner == owner && rows[i].left > 0) {
          filled++;
        }
      }
      return filled;
    }

    int expiredOf(int owners) {
      int points = 0;
      for (int i = 0; i < count; i++) {
        if (isOf(rows[i], owners)) {
          points += rows[i].expired;
        }
      }
      return points;
    }

    int firstOfAll() {
      int points = 0;
      for (int i = 0; i < count; i++) {
        points += rows[i].first;
      }
      return points;
    }

    int expireOn(int day) {
      int points = 0;
      for (int i = 0; i < count; i++) {
        if (rows[i].expires == day) {
          points += rows[i].expire();
        }
      }
      return points;
    }

    /** The lot from which points are taken next; -1 if none of these owners has any. */
    int earliest(int owners) {
      int best = -1;
      for (int i = 0; i < count; i++) {
        boolean counts = rows[i].left > 0 && isOf(rows[i], owners);
        if (counts && (best < 0 || rows[i].expires < rows[best].expires)) {
          best = i;
        }
      }
      return best;
    }

    /** Takes points as far as there are some; answers how many are missing. */
    int draw(int owners, int points) {
      int missing = points;
      for (int i = 0; i < count && missing > 0; i++) {
        int next = earliest(owners);
        if (next < 0) {
          return missing;
        }
        missing = drawFrom(next, missing);
      }
      return missing;
    }

    int drawFrom(int number, int points) {
      if (number < 0 || number >= count) {
        return points;
      }
      int taken = Math.min(points, rows[number].left);
      rows[number].left -= taken;
      drawn[number] += taken;
      return points - taken;
    }

    void giveBack(int number, int points, int today) {
      Lot lot = rows[number];
      lot.left += points;
      if (lot.expires <= today) {
        lot.expire();
      }
    }

    private static boolean isOf(Lot lot, int owners) {
      return (owners >> lot.owner & 1) != 0;
    }

    void keep() {
      keptCount = count;
      for (int i = 0; i < count; i++) {
        rows[i].keptLeft = rows[i].left;
        rows[i].keptExpired = rows[i].expired;
      }
    }

    void restore() {
      count = keptCount;
      for (int i = 0; i < count; i++) {
        rows[i].left = rows[i].keptLeft;
        rows[i].expired = rows[i].keptExpired;
      }
    }
  }

  /** All that is known of partners, members, rewards and transactions; numbers told are good ones. */
  private static final class Ledger {
    final int[] factors = new int[MAX_PARTNERS];
    final int[] lives = new int[MAX_PARTNERS];
    int partnerCount;
    int householdCount;
    final Member[] members = new Member[MAX_MEMBERS];
    int memberCount;
    final Reward[] rewards = new Reward[MAX_REWARDS];
    int rewardCount;
    final Deal[] deals = new Deal[MAX_DEALS];
    int dealCount;
    final Lots lots = new Lots();
    final int[] spareGiven = new int[MAX_RULES];
    int day;
    private final Reckoner reckoner = new Reckoner();
    private int keptDay;
    private int keptDealCount;

    Ledger() {
      for (int i = 0; i < MAX_MEMBERS; i++) {
        members[i] = new Member();
      }
      for (int i = 0; i < MAX_REWARDS; i++) {
        rewards[i] = new Reward();
      }
      for (int i = 0; i < MAX_DEALS; i++) {
        deals[i] = new Deal();
      }
    }

    int balance(int member) {
      return lots.leftOf(maskOf(member));
    }

    int owedByAll() {
      int points = 0;
      for (int i = 0; i < memberCount; i++) {
        points += members[i].owed;
      }
      return points;
    }

    int score(int member) {
      int points = 0;
      for (int i = 0; i < dealCount; i++) {
        if (isStanding(deals[i], member) && day - deals[i].day <= SCORE_DAYS) {
          points += deals[i].points;
        }
      }
      return points;
    }

    int ownTier(int member) {
      int points = score(member);
      if (points >= 5000) {
        return 3;
      }
      if (points >= 2000) {
        return 2;
      }
      return points >= 500 ? 1 : 0;
    }

    int purchases(int member) {
      int standing = 0;
      for (int i = 0; i < dealCount; i++) {
        if (isStanding(deals[i], member)) {
          standing++;
        }
      }
      return standing;
    }

    private static boolean isStanding(Deal deal, int member) {
      return deal.kind == PURCHASE && deal.member == member && !deal.back;
    }

    private long givenInPeriod(int member, int place) {
      long points = 0;
      for (int i = 0; i < dealCount; i++) {
        if (isStanding(deals[i], member) && deals[i].day / PERIOD == day / PERIOD) {
          points += deals[i].given[place];
        }
      }
      return points;
    }

    private int othersOf(int member) {
      int household = members[member].household;
      if (household < 0) {
        return 0;
      }
      int others = 0;
      for (int i = 0; i < memberCount; i++) {
        if (i != member && members[i].household == household) {
          others |= maskOf(i);
        }
      }
      return others;
    }

    /** Writes what each rule gives into the row given, and answers the points that are earned. */
    int earned(Rules rules, int member, int partner, int amount, int[] given) {
      tellReckoner(member, partner, amount);
      Arrays.fill(given, 0);
      long points = 0;
      for (int place = 0; place < rules.count && place < MAX_RULES; place++) {
        Rule rule = rules.rows[place];
        if (holds(rules, rule)) {
          given[place] = gives(rules, rule, member, place);
          points += given[place];
          if (rule.stops) {
            break;
          }
        }
      }
      points = points * factors[partner] / 100;
      points = points * (100 + 5 * members[member].tier) / 100;
      return (int) Math.min(points, MAX_EARNED);
    }

    private void tellReckoner(int member, int partner, int amount) {
      reckoner.tell(AMOUNT, amount);
      reckoner.tell(PARTNER, partner);
      reckoner.tell(TIER, members[member].tier);
      reckoner.tell(DAY, day);
      reckoner.tell(WEEKDAY, day % 7);
      reckoner.tell(BALANCE, lots.leftOf(maskOf(member)));
      reckoner.tell(NTH, 1 + purchases(member));
      reckoner.tell(MEMBERS, 1 + Integer.bitCount(othersOf(member)));
      reckoner.tell(OWED, members[member].owed);
    }

    private boolean holds(Rules rules, Rule rule) {
      return rule.testFrom == rule.earnFrom || reckoner.value(rules, rule.testFrom, rule.earnFrom) != 0;
    }

    private int gives(Rules rules, Rule rule, int member, int place) {
      int points = Math.max(0, reckoner.value(rules, rule.earnFrom, rule.mostFrom));
      if (rule.mostFrom < rule.end) {
        points = Math.min(points, Math.max(0, reckoner.value(rules, rule.mostFrom, rule.end)));
      }
      if (rule.each >= 0) {
        points = (int) Math.min(points, Math.max(0, rule.each - givenInPeriod(member, place)));
      }
      return points;
    }

    int purchase(Rules rules, int member, int partner, int amount) {
      if (dealCount >= MAX_DEALS) {
        return 0;
      }
      int points = earned(rules, member, partner, amount, deals[dealCount].given);
      Member buyer = members[member];
      int paid = Math.min(buyer.owed, points);
      buyer.owed -= paid;
      int lot = lots.add(member, points - paid, day + lives[partner]);
      addDeal(PURCHASE, member, partner, points, lot);
      buyer.tier = Math.max(buyer.tier, ownTier(member));
      return points;
    }

    private int addDeal(int kind, int member, int other, int points, int lot) {
      Deal deal = deals[dealCount];
      deal.kind = kind;
      deal.member = member;
      deal.other = other;
      deal.points = points;
      deal.day = day;
      deal.back = false;
      deal.lot = lot;
      dealCount++;
      return dealCount - 1;
    }

    boolean canTake(int member, int reward) {
      Member taker = members[member];
      Reward wanted = rewards[reward];
      if (taker.owed > 0 || taker.tier < wanted.tier || wanted.stock <= 0) {
        return false;
      }
      return lots.leftOf(maskOf(member) | othersOf(member)) >= wanted.cost;
    }

    int redeem(int member, int reward) {
      if (dealCount >= MAX_DEALS) {
        return -1;
      }
      Reward wanted = rewards[reward];
      Arrays.fill(lots.drawn, 0);
      int missing = lots.draw(maskOf(member), wanted.cost);
      lots.draw(othersOf(member), missing);
      System.arraycopy(lots.drawn, 0, deals[dealCount].drawn, 0, MAX_LOTS);
      wanted.stock--;
      wanted.taken++;
      return addDeal(REWARD, member, reward, wanted.cost, -1);
    }

    int donate(int from, int to, int points) {
      int earliest = lots.earliest(maskOf(from));
      if (earliest < 0 || dealCount >= MAX_DEALS) {
        return 0;
      }
      int expires = lots.rows[earliest].expires;
      lots.draw(maskOf(from), points);
      int got = giftOf(points);
      addDeal(GIFT, from, to, points, lots.add(to, got, expires));
      return got;
    }

    void undoPurchase(Deal deal) {
      int points = deal.points;
      if (deal.lot >= 0 && deal.lot < lots.count) {
        points -= lots.rows[deal.lot].expired;
      }
      points = lots.drawFrom(deal.lot, points);
      members[deal.member].owed += lots.draw(maskOf(deal.member), points);
    }

    void undoReward(Deal deal) {
      for (int i = 0; i < lots.count; i++) {
        lots.giveBack(i, deal.drawn[i], day);
      }
      Reward returned = rewards[deal.other];
      returned.stock = Math.min(returned.stock + 1, MAX_STOCK);
      returned.taken--;
    }

    /** Answers how many points expired. */
    int nextDay() {
      day++;
      int expired = lots.expireOn(day);
      if (day % PERIOD == 0) {
        lowerTiers();
      }
      return expired;
    }

    private void lowerTiers() {
      for (int i = 0; i < memberCount; i++) {
        if (ownTier(i) < members[i].tier) {
          members[i].tier--;
        }
      }
    }

    /** The cost of the chosen rewards that a member of this tier could spend points for. */
    int costOf(int choice, int tier) {
      int cost = 0;
      for (int i = 0; i < rewardCount; i++) {
        boolean chosen = (choice >> i & 1) != 0;
        if (chosen && rewards[i].stock > 0 && rewards[i].tier <= tier) {
          cost += rewards[i].cost;
        }
      }
      return cost;
    }

    /** Lives the days ahead in this ledger itself; whoever asks keeps it, and restores it behind. */
    int daysUntil(Rules rules, int member, int reward, int partner, int amount, int every) {
      int untilPurchase = 0;
      for (int days = 0; days <= WHEN_DAYS; days++) {
        if (days > 0) {
          nextDay();
        }
        if (untilPurchase == 0) {
          purchase(rules, member, partner, amount);
          untilPurchase = every;
        }
        untilPurchase--;
        if (canTake(member, reward)) {
          return days;
        }
      }
      return -1;
    }

    // Days and purchases alter, of what was there, only what is kept here; what they add stands
    // behind the counts, and is written over later.
    void keep() {
      keptDay = day;
      keptDealCount = dealCount;
      for (int i = 0; i < memberCount; i++) {
        members[i].keptTier = members[i].tier;
        members[i].keptOwed = members[i].owed;
      }
      lots.keep();
    }

    void restore() {
      day = keptDay;
      dealCount = keptDealCount;
      for (int i = 0; i < memberCount; i++) {
        members[i].tier = members[i].keptTier;
        members[i].owed = members[i].keptOwed;
      }
      lots.restore();
    }
  }
}
