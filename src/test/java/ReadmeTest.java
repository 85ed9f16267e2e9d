/** The examples of README.md, call by call. */
public final class ReadmeTest {
  public static void main(String[] args) {
    boxThatIsBrought();
    boxThatIsClaimedAndFound();
    Check.end();
  }

  private static void boxThatIsBrought() {
    Whichbox town = new Whichbox();
    int box = town.box(2, 300);
    Check.due("the box", box, 0);
    Check.due("the place of the box", town.placeOf(box), 0);
    Check.due("the time", town.pass(5), 5);
    town.scan(box, 0, 0);
    town.pass(3);
    town.lay(box, 2);
    int code = town.keep(2, box);
    town.pass(2);
    Check.due("the box behind the door", town.open(2, code), box);
    Check.due("the place in the end", town.placeOf(box), Whichbox.RECEIVER);
    Check.due("the story", town.story(box), 7);
    Check.due("the fees of courier 0", town.fees(0), 20);
  }

  private static void boxThatIsClaimedAndFound() {
    Whichbox town = new Whichbox();
    int box = town.box(1, 500);
    Check.due("the claim", town.claim(box), 500);
    town.pass(1000);
    town.scan(box, 3, 0);
    town.pass(4);
    town.scan(box, 3, 2);
    Check.due("what is left of the claim", town.insurers(), 0);
    Check.due("the fees of courier 3", town.fees(3), 10);
    town.find(box, 1);
    Check.due("the place where it is found", town.placeOf(box), 1);
    Check.due("the lies of courier 3", town.lies(3), 2);
    Check.due("the fees of courier 3, undone", town.fees(3), 0);
    Check.due("the entries", town.entries(), 4);
  }
}
