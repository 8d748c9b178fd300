import java.util.ArrayList;
import java.util.HashSet;
import java.util.List;
import java.util.Set;

/** The document once more, in its plainest form, to compare runs with. */
final class Model {
  private static final class Person {
    int home;
    int tier;
    int owes;
  }

  private static final class Prize {
    int cost;
    int stock;
    int tier;
  }

  private static final class Parcel {
    int of;
    int left;
    int ends;
    int first;
    int gone;
  }

  private static final class Event {
    int kind;
    int who;
    int other;
    int points;
    int on;
    boolean back;
    int parcel = -1;
    long[] gave = new long[12];
    List<int[]> drawn = new ArrayList<>();
  }

  private String tape = "";
  private String rules = "";
  private int errorAt = -1;
  private int day;
  private final List<int[]> partners = new ArrayList<>();
  private int homes;
  private final List<Person> people = new ArrayList<>();
  private final List<Prize> prizes = new ArrayList<>();
  private final List<Parcel> parcels = new ArrayList<>();
  private final List<Event> events = new ArrayList<>();
  private String paper = "";

  /** The error of a text, and its position; 0 and -1 if it has none. */
  static int[] errorOf(String text) {
    int first = Grammar.firstError(text);
    if (first >= 0) {
      return new int[] {1, first};
    }
    Set<String> names = new HashSet<>();
    List<Grammar.Token> tokens = Grammar.tokens(text);
    int told = 0;
    for (int i = 0; i < tokens.size(); i++) {
      if (tokens.get(i).kind().equals("rule")) {
        Grammar.Token name = tokens.get(i + 1);
        if (!names.add(name.text())) {
          return new int[] {2, name.start()};
        }
        told++;
        if (told == 13) {
          return new int[] {3, name.start()};
        }
      }
    }
    return new int[] {0, -1};
  }

  private static void index(boolean good) {
    if (!good) {
      throw new IndexOutOfBoundsException();
    }
  }

  private static void argument(boolean good) {
    if (!good) {
      throw new IllegalArgumentException();
    }
  }

  private static void state(boolean good) {
    if (!good) {
      throw new IllegalStateException();
    }
  }

  private static boolean in(int x, int from, int to) {
    return from <= x && x <= to;
  }

  int feed(int... numbers) {
    state(tape.length() + 20 <= 2000);
    StringBuilder more = new StringBuilder(tape);
    for (int number : numbers) {
      for (int k = 3; k >= 0; k--) {
        more.append((char) (number >>> 8 * k & 255));
      }
    }
    tape = more.toString();
    return tape.length();
  }

  int trim(int n) {
    argument(in(n, 0, tape.length()));
    tape = tape.substring(0, n);
    return n;
  }

  int teach() {
    int[] error = errorOf(tape);
    if (error[0] == 0) {
      rules = tape;
    }
    tape = "";
    errorAt = error[1];
    return error[0];
  }

  int errorAt() {
    return errorAt;
  }

  int addPartner(int factor, int life) {
    argument(in(factor, 10, 300) && in(life, 1, 400));
    state(partners.size() < 6);
    partners.add(new int[] {factor, life});
    return partners.size() - 1;
  }

  int addHousehold() {
    state(homes < 6);
    return homes++;
  }

  int join(int household) {
    index(in(household, -1, homes - 1));
    state(people.size() < 16);
    Person one = new Person();
    one.home = household;
    people.add(one);
    return people.size() - 1;
  }

  int move(int member, int household) {
    index(in(member, 0, people.size() - 1) && in(household, -1, homes - 1));
    int before = people.get(member).home;
    people.get(member).home = household;
    return before;
  }

  int addReward(int cost, int stock, int tier) {
    argument(in(cost, 1, 20000) && in(stock, 0, 99) && in(tier, 0, 3));
    state(prizes.size() < 10);
    Prize one = new Prize();
    one.cost = cost;
    one.stock = stock;
    one.tier = tier;
    prizes.add(one);
    return prizes.size() - 1;
  }

  int reward(int reward, int what) {
    index(in(reward, 0, prizes.size() - 1) && in(what, 0, 3));
    Prize one = prizes.get(reward);
    int taken = 0;
    for (Event e : events) {
      taken += e.kind == 1 && e.other == reward && !e.back ? 1 : 0;
    }
    return new int[] {one.cost, one.stock, one.tier, taken}[what];
  }

  private int balance(int member) {
    int sum = 0;
    for (Parcel p : parcels) {
      sum += p.of == member ? p.left : 0;
    }
    return sum;
  }

  private int score(int member) {
    int sum = 0;
    for (Event e : events) {
      sum += e.kind == 0 && e.who == member && !e.back && e.on >= day - 89 ? e.points : 0;
    }
    return sum;
  }

  private int ownTier(int member) {
    int score = score(member);
    return score < 500 ? 0 : score < 2000 ? 1 : score < 5000 ? 2 : 3;
  }

  private int purchases(int member) {
    int sum = 0;
    for (Event e : events) {
      sum += e.kind == 0 && e.who == member && !e.back ? 1 : 0;
    }
    return sum;
  }

  int member(int member, int what) {
    index(in(member, 0, people.size() - 1) && in(what, 0, 8));
    Person one = people.get(member);
    int gone = 0;
    int full = 0;
    for (Parcel p : parcels) {
      if (p.of == member) {
        gone += p.gone;
        full += p.left > 0 ? 1 : 0;
      }
    }
    return new int[] {one.home, one.tier, balance(member), one.owes, score(member), ownTier(member),
        purchases(member), gone, full}[what];
  }

  private void checkPurchase(int member, int partner, int amount) {
    index(in(member, 0, people.size() - 1) && in(partner, 0, partners.size() - 1));
    argument(in(amount, 1, 10000));
  }

  private Event purchase(int member, int partner, int amount) {
    Event e = new Event();
    e.who = member;
    e.other = partner;
    e.on = day;
    int home = people.get(member).home;
    int household = 0;
    for (Person p : people) {
      household += home >= 0 && p.home == home ? 1 : 0;
    }
    int[] facts = {amount, partner, people.get(member).tier, day, day % 7, balance(member), 1 + purchases(member),
        Math.max(1, household), people.get(member).owes};
    long sum = 0;
    Reading reading = new Reading(Grammar.tokens(rules), facts);
    for (int place = 0; reading.more(); place++) {
      long before = 0;
      for (Event old : events) {
        before += old.kind == 0 && old.who == member && !old.back && old.on / 30 == day / 30 ? old.gave[place] : 0;
      }
      e.gave[place] = reading.rule(before);
      sum += e.gave[place];
    }
    sum = sum * partners.get(partner)[0] / 100;
    sum = sum * (100 + 5 * people.get(member).tier) / 100;
    e.points = (int) Math.min(1000000, sum);
    return e;
  }

  int buy(int member, int partner, int amount) {
    checkPurchase(member, partner, amount);
    state(events.size() < 100);
    Event e = purchase(member, partner, amount);
    events.add(e);
    Person one = people.get(member);
    int pays = Math.min(one.owes, e.points);
    one.owes -= pays;
    e.parcel = parcel(member, e.points - pays, day + partners.get(partner)[1]);
    one.tier = Math.max(one.tier, ownTier(member));
    return e.points;
  }

  private int parcel(int of, int points, int ends) {
    if (points == 0) {
      return -1;
    }
    Parcel p = new Parcel();
    p.of = of;
    p.left = points;
    p.first = points;
    p.ends = ends;
    parcels.add(p);
    return parcels.size() - 1;
  }

  /** Point by point, so that nothing is as clever as what it is compared with. */
  private List<int[]> draw(boolean[] from, int points) {
    List<int[]> drawn = new ArrayList<>();
    int missing = points;
    for (int on = day + 1; on <= day + 400 && missing > 0; on++) {
      for (int i = 0; i < parcels.size(); i++) {
        Parcel p = parcels.get(i);
        if (from[p.of] && p.ends == on && p.left > 0 && missing > 0) {
          int some = Math.min(p.left, missing);
          p.left -= some;
          missing -= some;
          drawn.add(new int[] {i, some});
        }
      }
    }
    return drawn;
  }

  private boolean[] only(int member) {
    boolean[] row = new boolean[16];
    row[member] = true;
    return row;
  }

  private boolean[] others(int member) {
    boolean[] row = new boolean[16];
    for (int i = 0; i < people.size(); i++) {
      row[i] = i != member && people.get(i).home >= 0 && people.get(i).home == people.get(member).home;
    }
    return row;
  }

  private boolean canTake(int member, int reward) {
    Person one = people.get(member);
    Prize prize = prizes.get(reward);
    int points = balance(member);
    for (int i = 0; i < people.size(); i++) {
      points += others(member)[i] ? balance(i) : 0;
    }
    return one.owes == 0 && one.tier >= prize.tier && prize.stock != 0 && points >= prize.cost;
  }

  int take(int member, int reward) {
    index(in(member, 0, people.size() - 1) && in(reward, 0, prizes.size() - 1));
    state(events.size() < 100 && canTake(member, reward));
    Event e = new Event();
    e.kind = 1;
    e.who = member;
    e.other = reward;
    e.on = day;
    e.points = prizes.get(reward).cost;
    int own = Math.min(balance(member), e.points);
    e.drawn.addAll(draw(only(member), own));
    e.drawn.addAll(draw(others(member), e.points - own));
    events.add(e);
    prizes.get(reward).stock--;
    return events.size() - 1;
  }

  int give(int from, int to, int points) {
    index(in(from, 0, people.size() - 1) && in(to, 0, people.size() - 1));
    argument(from != to && points >= 1);
    state(events.size() < 100 && people.get(from).owes == 0 && balance(from) >= points);
    Event e = new Event();
    e.kind = 2;
    e.who = from;
    e.other = to;
    e.on = day;
    e.points = points;
    int ends = Integer.MAX_VALUE;
    for (int[] pair : draw(only(from), points)) {
      ends = Math.min(ends, parcels.get(pair[0]).ends);
    }
    int got = points / 10 * 9 + points % 10 * 9 / 10;
    e.parcel = parcel(to, got, ends);
    events.add(e);
    return got;
  }

  int takeBack(int transaction) {
    index(in(transaction, 0, events.size() - 1));
    Event e = events.get(transaction);
    state(e.kind != 2 && !e.back && e.on >= day - 60);
    e.back = true;
    Person one = people.get(e.who);
    if (e.kind == 1) {
      prizes.get(e.other).stock = Math.min(99, prizes.get(e.other).stock + 1);
      for (int[] pair : e.drawn) {
        Parcel p = parcels.get(pair[0]);
        if (p.ends <= day) {
          p.gone += pair[1];
        } else {
          p.left += pair[1];
        }
      }
      return one.owes;
    }
    int missing = e.points;
    if (e.parcel >= 0) {
      Parcel own = parcels.get(e.parcel);
      missing -= own.gone;
      int some = Math.min(missing, own.left);
      own.left -= some;
      missing -= some;
    }
    for (int[] pair : draw(only(e.who), missing)) {
      missing -= pair[1];
    }
    one.owes += missing;
    return one.owes;
  }

  int transaction(int transaction, int what) {
    index(in(transaction, 0, events.size() - 1) && in(what, 0, 6));
    Event e = events.get(transaction);
    return new int[] {e.kind, e.who, e.other, e.points, e.on, e.back ? 1 : 0, e.parcel}[what];
  }

  int lot(int lot, int what) {
    index(in(lot, 0, parcels.size() - 1) && in(what, 0, 4));
    Parcel p = parcels.get(lot);
    return new int[] {p.of, p.left, p.ends, p.first, p.gone}[what];
  }

  int pass(int days) {
    argument(in(days, 1, 200));
    int sum = 0;
    for (int i = 0; i < days; i++) {
      day++;
      for (Parcel p : parcels) {
        if (p.ends == day) {
          sum += p.left;
          p.gone += p.left;
          p.left = 0;
        }
      }
      for (int m = 0; m < people.size() && day % 30 == 0; m++) {
        people.get(m).tier -= ownTier(m) < people.get(m).tier ? 1 : 0;
      }
    }
    return sum;
  }

  int count(int what) {
    index(in(what, 0, 12));
    int left = 0;
    int gone = 0;
    int owed = 0;
    for (Parcel p : parcels) {
      left += p.left;
      gone += p.gone;
    }
    for (Person p : people) {
      owed += p.owes;
    }
    int told = 0;
    for (Grammar.Token token : Grammar.tokens(rules)) {
      told += token.text().equals("rule") ? 1 : 0;
    }
    return new int[] {day, told, partners.size(), homes, people.size(), prizes.size(), events.size(), parcels.size(),
        left, owed, gone, tape.length(), paper.length()}[what];
  }

  int would(int member, int partner, int amount) {
    checkPurchase(member, partner, amount);
    return purchase(member, partner, amount).points;
  }

  int expiring(int member, int days) {
    index(in(member, 0, people.size() - 1));
    argument(in(days, 0, 400));
    int sum = 0;
    for (Parcel p : parcels) {
      sum += p.of == member && p.ends - day <= days ? p.left : 0;
    }
    return sum;
  }

  int affords(int member) {
    index(in(member, 0, people.size() - 1));
    int best = -1;
    for (int i = prizes.size() - 1; i >= 0; i--) {
      if (canTake(member, i) && (best < 0 || prizes.get(i).cost >= prizes.get(best).cost)) {
        best = i;
      }
    }
    return best;
  }

  int spend(int member) {
    index(in(member, 0, people.size() - 1));
    int balance = balance(member);
    boolean[] reached = new boolean[200001];
    reached[0] = true;
    int best = 0;
    for (Prize p : prizes) {
      for (int i = 200000 - p.cost; i >= 0 && p.stock > 0 && p.tier <= people.get(member).tier; i--) {
        if (reached[i]) {
          reached[i + p.cost] = true;
        }
      }
    }
    for (int i = 0; i <= Math.min(balance, 200000); i++) {
      best = reached[i] ? i : best;
    }
    return best;
  }

  private Model copy() {
    Model m = new Model();
    m.rules = rules;
    m.day = day;
    m.homes = homes;
    m.partners.addAll(partners);
    m.prizes.addAll(prizes);
    m.events.addAll(events);
    for (Person p : people) {
      Person q = new Person();
      q.home = p.home;
      q.tier = p.tier;
      q.owes = p.owes;
      m.people.add(q);
    }
    for (Parcel p : parcels) {
      Parcel q = new Parcel();
      q.of = p.of;
      q.left = p.left;
      q.ends = p.ends;
      q.first = p.first;
      q.gone = p.gone;
      m.parcels.add(q);
    }
    return m;
  }

  int when(int member, int reward, int partner, int amount, int every) {
    index(in(member, 0, people.size() - 1) && in(reward, 0, prizes.size() - 1) && in(partner, 0, partners.size() - 1));
    argument(in(amount, 1, 10000) && in(every, 1, 60));
    Model ahead = copy();
    for (int days = 0; days <= 120; days++) {
      if (days % every == 0 && ahead.events.size() < 100) {
        ahead.buy(member, partner, amount);
      }
      if (ahead.canTake(member, reward)) {
        return days;
      }
      ahead.pass(1);
    }
    return -1;
  }

  int state(int member) {
    index(in(member, 0, people.size() - 1));
    StringBuilder text = new StringBuilder();
    for (Event e : events) {
      if (e.who == member) {
        text.append(e.on).append(new String[] {" B +", " T -", " G -"}[e.kind]).append(e.points);
        text.append(e.back ? " x\n" : "\n");
      } else if (e.kind == 2 && e.other == member) {
        int got = e.parcel < 0 ? 0 : parcels.get(e.parcel).first;
        text.append(e.on).append(" G +").append(got).append('\n');
      }
    }
    Person one = people.get(member);
    paper = text.append(balance(member)).append(' ').append(one.owes).append(' ').append(one.tier).append('\n').toString();
    return paper.length();
  }

  int byteAt(int index) {
    index(in(index, 0, paper.length() - 1));
    return paper.charAt(index);
  }

  double breakage() {
    double gone = 0;
    double first = 0;
    for (Parcel p : parcels) {
      gone += p.gone;
      first += p.first;
    }
    return first == 0 ? 0 : gone / first;
  }

  long digest() {
    long[] d = {643};
    numbers(d, 13, i -> count(i));
    for (int[] p : partners) {
      numbers(d, 2, i -> p[i]);
    }
    for (int m = 0; m < people.size(); m++) {
      int one = m;
      numbers(d, 9, i -> member(one, i));
    }
    for (int r = 0; r < prizes.size(); r++) {
      int one = r;
      numbers(d, 4, i -> reward(one, i));
    }
    for (int t = 0; t < events.size(); t++) {
      int one = t;
      numbers(d, 7, i -> transaction(one, i));
    }
    for (int l = 0; l < parcels.size(); l++) {
      int one = l;
      numbers(d, 5, i -> lot(one, i));
    }
    numbers(d, paper.length(), i -> paper.charAt(i));
    return d[0];
  }

  private interface Row {
    int at(int i);
  }

  private static void numbers(long[] d, int size, Row row) {
    for (int i = 0; i < size; i++) {
      d[0] = d[0] * 31 + row.at(i);
    }
  }

  /** Reckons rules while it reads them, token by token; the text has no error. */
  private static final class Reading {
    private static final List<String> WHATS =
        List.of("amount", "partner", "tier", "day", "weekday", "balance", "nth", "members", "owed");
    private final List<Grammar.Token> tokens;
    private final int[] facts;
    private int at;
    private boolean stopped;

    Reading(List<Grammar.Token> tokens, int[] facts) {
      this.tokens = tokens;
      this.facts = facts;
    }

    boolean more() {
      return at < tokens.size() && !stopped;
    }

    private boolean skip(String kind) {
      boolean there = at < tokens.size() && tokens.get(at).kind().equals(kind);
      at += there ? 1 : 0;
      return there;
    }

    long rule(long before) {
      skip("rule");
      skip("NAME");
      boolean counts = !skip("when") || test();
      skip("earn");
      long points = Math.max(0, sum());
      if (skip("most")) {
        points = Math.min(points, Math.max(0, sum()));
      }
      if (skip("each")) {
        long most = Integer.parseInt(tokens.get(at++).text());
        points = Math.min(points, Math.max(0, most - before));
      }
      stopped = skip("stop") && counts;
      skip(";");
      return counts ? points : 0;
    }

    private boolean test() {
      boolean holds = both();
      while (skip("or")) {
        holds |= both();
      }
      return holds;
    }

    private boolean both() {
      boolean holds = single();
      while (skip("and")) {
        holds &= single();
      }
      return holds;
    }

    private boolean single() {
      if (skip("not")) {
        return !single();
      }
      if (skip("[")) {
        boolean holds = test();
        skip("]");
        return holds;
      }
      int left = sum();
      String sign = tokens.get(at++).text();
      int c = Integer.compare(left, sum());
      return c < 0 && sign.startsWith("<") || c > 0 && sign.startsWith(">") || c == 0 && sign.endsWith("=");
    }

    private int sum() {
      int x = product();
      while (true) {
        if (skip("+")) {
          x += product();
        } else if (skip("-")) {
          x -= product();
        } else {
          return x;
        }
      }
    }

    private int product() {
      int x = value();
      while (true) {
        if (skip("*")) {
          x *= value();
        } else if (skip("/")) {
          int y = value();
          x = y == 0 ? 0 : x / y;
        } else {
          return x;
        }
      }
    }

    private int value() {
      if (skip("-")) {
        return -value();
      }
      if (skip("(")) {
        int x = sum();
        skip(")");
        return x;
      }
      String kind = tokens.get(at).kind();
      at++;
      if (kind.equals("NUMBER")) {
        return Integer.parseInt(tokens.get(at - 1).text());
      }
      if (WHATS.contains(kind)) {
        return facts[WHATS.indexOf(kind)];
      }
      skip("(");
      int x = sum();
      skip(",");
      int y = sum();
      skip(")");
      return kind.equals("min") ? Math.min(x, y) : Math.max(x, y);
    }
  }
}
