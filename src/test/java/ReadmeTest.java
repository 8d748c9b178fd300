import java.io.File;
import java.io.IOException;
import java.nio.file.Files;
import java.nio.file.Path;
import java.util.List;

/** What README.md says: the answers of its calls, its statement, and the tests that it names. Run from the project. */
public final class ReadmeTest {
  public static void main(String[] args) throws IOException {
    String readme = Files.readString(Path.of("README.md"));
    calls(readme);
    tests(readme);
    Check.end();
  }

  private static void calls(String readme) {
    Check.sentence("How to use it");
    PointHouse house = new PointHouse();
    house.feed(0x72756c65, 0x20612065, 0x61726e20, 0x616d6f75, 0x6e743b20);
    Check.due("teach", house.teach(), 0);
    int partner = house.addPartner(100, 365);
    int home = house.addHousehold();
    int member = house.join(home);
    int other = house.join(-1);
    int reward = house.addReward(40, 10, 0);
    Check.due("would", house.would(member, partner, 50), 50);
    Check.due("buy", house.buy(member, partner, 50), 50);
    Check.due("affords", house.affords(member), 0);
    Check.due("take", house.take(member, reward), 1);
    Check.due("balance", house.member(member, 2), 10);
    Check.due("takeBack", house.takeBack(1), 0);
    Check.due("give", house.give(member, other, 10), 9);
    Check.due("pass", house.pass(30), 0);
    Check.due("when", house.when(member, reward, partner, 5, 7), 0);
    Check.due("state", house.state(member), 33);
    Check.due("the statement stands in README.md", readme.contains("```text\n" + Check.paper(house) + "```"), true);
  }

  private static void tests(String readme) {
    Check.sentence("How to run its tests");
    String[] files = new File("src/test/java").list();
    List<String> names = files == null ? List.of() : List.of(files);
    Check.due("there are tests", names.isEmpty(), false);
    for (String file : names) {
      String told = "`" + file.replace(".java", "") + "`";
      Check.due("README.md names " + told, !file.endsWith("Test.java") || readme.contains(told), true);
    }
    for (String word : readme.split("`")) {
      boolean isTest = word.matches("[A-Z][A-Za-z]*Test");
      Check.due("there is " + word, !isTest || names.contains(word + ".java"), true);
    }
  }
}
