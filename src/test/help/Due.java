/** Counts the answers of calls that are not the ones that are due, and prints them. */
final class Due {
  interface Call {
    long answer();
  }

  static final String INDEX = "IndexOutOfBoundsException";
  static final String ARGUMENT = "IllegalArgumentException";
  static final String STATE = "IllegalStateException";

  private static int wrong = 0;
  private static int asked = 0;

  private Due() {
  }

  /** An answer, or the name of the exception that the call throws; only the three that the document names are caught. */
  static String told(Call call) {
    try {
      return Long.toString(call.answer());
    } catch (IndexOutOfBoundsException e) {
      return e.getClass() == IndexOutOfBoundsException.class ? INDEX : "machine's " + e;
    } catch (IllegalArgumentException e) {
      return e.getClass() == IllegalArgumentException.class ? ARGUMENT : "machine's " + e;
    } catch (IllegalStateException e) {
      return e.getClass() == IllegalStateException.class ? STATE : "machine's " + e;
    }
  }

  static void is(String what, Object want, Call call) {
    same(what, want.toString(), told(call));
  }

  static void index(String what, Call call) {
    is(what, INDEX, call);
  }

  static void argument(String what, Call call) {
    is(what, ARGUMENT, call);
  }

  static void state(String what, Call call) {
    is(what, STATE, call);
  }

  static void yes(String what, boolean holds) {
    same(what, "true", Boolean.toString(holds));
  }

  static void same(String what, Object want, Object got) {
    asked++;
    if (!want.toString().equals(got.toString())) {
      wrong++;
      if (wrong <= 50) {
        System.out.println(what + " answered " + got + ", due is " + want);
      }
    }
  }

  /** Ends the test: with exit code 1, if an answer was wrong, or nothing was asked. */
  static void end(String name) {
    System.out.println(name + ": " + (asked - wrong) + " answers as due, " + wrong + " not");
    if (wrong != 0 || asked == 0) {
      System.exit(1);
    }
  }
}
