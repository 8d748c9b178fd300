import java.util.ArrayList;
import java.util.HashMap;
import java.util.LinkedHashSet;
import java.util.List;
import java.util.Map;
import java.util.Set;
import java.util.regex.Matcher;
import java.util.regex.Pattern;

/**
 * The grammar of the document, written out for each depth and read by Earley's algorithm, which
 * knows at each token whether the tokens so far are the beginning of a text. It shares nothing with
 * the parser under test.
 */
final class Grammar {
  record Token(String kind, String text, int start) {
  }

  private record Item(String head, List<String> body, int dot, int origin) {
    String next() {
      return dot < body.size() ? body.get(dot) : null;
    }

    Item moved() {
      return new Item(head, body, dot + 1, origin);
    }
  }

  private static final Set<String> KEYWORDS = Set.of(("rule when earn most each stop and or not min max amount partner"
      + " tier day weekday balance nth members owed").split(" "));
  private static final Pattern TOKEN =
      Pattern.compile("[a-z][a-z0-9]*|[0-9]+|<=|>=|[()\\[\\];,+\\-*/<>=]|[^ \\n]");
  private static final Map<String, List<List<String>>> PRODUCTIONS = productions();

  private Grammar() {
  }

  private static void put(Map<String, List<List<String>>> all, String head, String... bodies) {
    List<List<String>> rows = all.computeIfAbsent(head, k -> new ArrayList<>());
    for (String body : bodies) {
      rows.add(body.isEmpty() ? List.of() : List.of(body.split(" ")));
    }
  }

  private static Map<String, List<List<String>>> productions() {
    Map<String, List<List<String>>> all = new HashMap<>();
    put(all, "TEXT", "", "RULE TEXT");
    put(all, "RULE", "rule NAME WHEN earn SUM0 MOST EACH STOP ;");
    put(all, "WHEN", "", "when TEST0");
    put(all, "MOST", "", "most SUM0");
    put(all, "EACH", "", "each NUMBER");
    put(all, "STOP", "", "stop");
    put(all, "COMPARE", "<", ">", "=", "<=", ">=");
    put(all, "WHAT", "amount", "partner", "tier", "day", "weekday", "balance", "nth", "members", "owed");
    for (int d = 0; d <= 8; d++) {
      put(all, "TEST" + d, "BOTH" + d + " ORS" + d);
      put(all, "ORS" + d, "", "or BOTH" + d + " ORS" + d);
      put(all, "BOTH" + d, "SINGLE" + d + " ANDS" + d);
      put(all, "ANDS" + d, "", "and SINGLE" + d + " ANDS" + d);
      put(all, "SINGLE" + d, "SUM" + d + " COMPARE SUM" + d);
      put(all, "SUM" + d, "PRODUCT" + d + " ADDS" + d);
      put(all, "ADDS" + d, "", "+ PRODUCT" + d + " ADDS" + d, "- PRODUCT" + d + " ADDS" + d);
      put(all, "PRODUCT" + d, "VALUE" + d + " TIMES" + d);
      put(all, "TIMES" + d, "", "* VALUE" + d + " TIMES" + d, "/ VALUE" + d + " TIMES" + d);
      put(all, "VALUE" + d, "NUMBER", "WHAT");
      if (d < 8) {
        int e = d + 1;
        put(all, "SINGLE" + d, "not SINGLE" + e, "[ TEST" + e + " ]");
        put(all, "VALUE" + d, "- VALUE" + e, "( SUM" + e + " )");
        put(all, "VALUE" + d, "min ( SUM" + e + " , SUM" + e + " )", "max ( SUM" + e + " , SUM" + e + " )");
      } else {
        // At the greatest depth min is no error yet, but the ( behind it is.
        put(all, "VALUE" + d, "min NEVER", "max NEVER");
        put(all, "NEVER");
      }
    }
    return all;
  }

  /** The tokens, of which the last one has the kind BAD if no token begins there. */
  static List<Token> tokens(String tape) {
    List<Token> row = new ArrayList<>();
    Matcher m = TOKEN.matcher(tape);
    while (m.find()) {
      String kind = kindOf(m.group());
      row.add(new Token(row.size() == 300 ? "BAD" : kind, m.group(), m.start()));
      if (kind.equals("BAD") || row.size() == 301) {
        return row;
      }
    }
    return row;
  }

  private static String kindOf(String text) {
    if (text.matches("[a-z].*")) {
      return text.length() > 10 ? "BAD" : KEYWORDS.contains(text) ? text : "NAME";
    }
    if (text.matches("[0-9]+")) {
      return text.length() > 6 ? "BAD" : "NUMBER";
    }
    return text.matches("<=|>=|[()\\[\\];,+\\-*/<>=]") ? text : "BAD";
  }

  /** The position of error 1; -1 if there is none. */
  static int firstError(String tape) {
    List<Token> tokens = tokens(tape);
    List<Set<Item>> sets = new ArrayList<>();
    for (int i = 0; i <= tokens.size(); i++) {
      sets.add(new LinkedHashSet<>());
    }
    for (List<String> body : PRODUCTIONS.get("TEXT")) {
      sets.get(0).add(new Item("TEXT", body, 0, 0));
    }
    for (int i = 0; i <= tokens.size(); i++) {
      List<Item> items = complete(sets, i);
      if (i == tokens.size()) {
        return endsText(items) ? -1 : tape.length();
      }
      for (Item item : items) {
        if (tokens.get(i).kind().equals(item.next())) {
          sets.get(i + 1).add(item.moved());
        }
      }
      if (sets.get(i + 1).isEmpty()) {
        return tokens.get(i).start();
      }
    }
    return -1;
  }

  private static boolean endsText(List<Item> items) {
    for (Item item : items) {
      if (item.head().equals("TEXT") && item.next() == null && item.origin() == 0) {
        return true;
      }
    }
    return false;
  }

  private static List<Item> complete(List<Set<Item>> sets, int at) {
    Set<Item> known = sets.get(at);
    List<Item> items = new ArrayList<>(known);
    for (int i = 0; i < items.size(); i++) {
      Item item = items.get(i);
      List<Item> more = new ArrayList<>();
      String next = item.next();
      if (next == null) {
        // An item that began here is found by whoever predicts it, as what is empty ends at once.
        for (Item waiting : item.origin() == at ? List.<Item>of() : sets.get(item.origin())) {
          if (item.head().equals(waiting.next())) {
            more.add(waiting.moved());
          }
        }
      } else if (PRODUCTIONS.containsKey(next)) {
        for (List<String> body : PRODUCTIONS.get(next)) {
          more.add(new Item(next, body, 0, at));
          if (body.isEmpty()) {
            more.add(item.moved());
          }
        }
      }
      for (Item one : more) {
        if (known.add(one)) {
          items.add(one);
        }
      }
    }
    return items;
  }
}
