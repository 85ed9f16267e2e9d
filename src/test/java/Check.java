/** What the tests share: answers and exceptions that are due, and the end of a test. */
final class Check {
  private static int wrong = 0;
  private static int looked = 0;

  private Check() {}

  interface Call {
    void make();
  }

  static void due(String call, long got, long want) {
    looked++;
    if (got != want) {
      wrong++;
      System.out.println(call + " answered " + got + ", due is " + want);
    }
  }

  static void due(String call, boolean got, boolean want) {
    due(call, got ? 1 : 0, want ? 1 : 0);
  }

  static void same(String what, String got, String want) {
    looked++;
    if (!got.equals(want)) {
      wrong++;
      System.out.println(what + " is " + got + ", due is " + want);
    }
  }

  /** Looks whether a call throws just this exception, and changes nothing of what can be asked. */
  static void refused(String call, Whichbox asked, Class<? extends RuntimeException> due, Call made) {
    String ahead = stateOf(asked);
    same(call + " throws", thrownBy(made), due.getSimpleName());
    same(call + ": the state behind it", stateOf(asked), ahead);
  }

  static void refusedIndex(String call, Whichbox asked, Call made) {
    refused(call, asked, IndexOutOfBoundsException.class, made);
  }

  static void refusedArgument(String call, Whichbox asked, Call made) {
    refused(call, asked, IllegalArgumentException.class, made);
  }

  static void refusedState(String call, Whichbox asked, Call made) {
    refused(call, asked, IllegalStateException.class, made);
  }

  private static String thrownBy(Call made) {
    try {
      made.make();
      return "nothing";
    } catch (RuntimeException e) {
      return e.getClass().getSimpleName();
    }
  }

  /** All that can be asked of an object, in one text. */
  static String stateOf(Whichbox x) {
    StringBuilder all = new StringBuilder();
    all.append(x.time()).append(' ').append(x.boxes()).append(' ');
    all.append(x.insurers()).append(' ').append(x.entries());
    for (int box = 0; box < x.boxes(); box++) {
      all.append(" b").append(box).append(' ').append(x.scans(box)).append(' ').append(x.story(box));
      all.append(' ').append(x.storyOfAll(box));
      all.append(' ').append(x.placeOf(box)).append(' ').append(x.hasFee(box)).append(' ');
      all.append(x.isInsured(box)).append(' ').append(x.fine(box));
    }
    for (int courier = 0; courier < 4; courier++) {
      all.append(" c").append(courier).append(' ').append(x.fees(courier));
    }
    for (int who = 0; who < 14; who++) {
      all.append(" w").append(who).append(' ').append(x.lies(who));
    }
    for (int door = 0; door < 10; door++) {
      all.append(" d").append(door).append(' ').append(x.isJammed(door)).append(' ').append(x.keptFor(door));
    }
    return all.toString();
  }

  /** A new object with one box, the minutes passed. */
  static Whichbox oneBox(int size, int value, int minutes) {
    Whichbox x = new Whichbox();
    x.box(size, value);
    passAll(x, minutes);
    return x;
  }

  /** Lets more minutes pass than one call may. */
  static void passAll(Whichbox x, int minutes) {
    int left = minutes;
    while (left > 0) {
      int some = Math.min(left, 2000);
      x.pass(some);
      left -= some;
    }
  }

  static void end() {
    System.out.println(looked + " looked at, " + wrong + " wrong");
    if (wrong != 0 || looked == 0) {
      System.exit(1);
    }
  }
}
