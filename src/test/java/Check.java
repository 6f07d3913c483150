/** What the tests share: it counts the answers that are not due, and prints them. */
final class Check {
  /** A call that may throw. */
  interface Call {
    long answer();
  }

  private int wrong = 0;
  private int made = 0;

  void same(String what, long got, long due) {
    made++;
    if (got != due) {
      tell(what + " answered " + got + ", due is " + due);
    }
  }

  void sameDouble(String what, double got, double due) {
    made++;
    if (Double.doubleToLongBits(got) != Double.doubleToLongBits(due)) {
      tell(what + " answered " + got + ", due is " + due);
    }
  }

  void isTrue(String what, boolean holds) {
    made++;
    if (!holds) {
      tell(what + " does not hold");
    }
  }

  /** The very class is asked: what the machine throws is of a class below it, or beside it. */
  void fails(String what, Class<? extends RuntimeException> due, Call call) {
    made++;
    String got = outcome(call);
    if (!got.equals("throws " + due.getName())) {
      tell(what + ": " + got + ", due is throws " + due.getName());
    }
  }

  /** Like fails; the digest tells whether the call has changed anything. */
  void refused(String what, Class<? extends RuntimeException> due, ShapedRows x, Call call) {
    long before = x.digest();
    fails(what, due, call);
    same("digest after " + what, x.digest(), before);
  }

  void badIndex(String what, ShapedRows x, Call call) {
    refused(what, IndexOutOfBoundsException.class, x, call);
  }

  void badArgument(String what, ShapedRows x, Call call) {
    refused(what, IllegalArgumentException.class, x, call);
  }

  void badState(String what, ShapedRows x, Call call) {
    refused(what, IllegalStateException.class, x, call);
  }

  static String outcome(Call call) {
    try {
      return "answers " + call.answer();
    } catch (RuntimeException e) {
      return "throws " + e.getClass().getName();
    }
  }

  static void type(ShapedRows x, String text) {
    for (int i = 0; i < text.length(); i++) {
      x.append(text.charAt(i));
    }
  }

  static void holdAll(ShapedRows x, int shape) {
    for (int reader = 0; reader < 4; reader++) {
      x.hold(reader, shape);
    }
  }

  /** Clears the buffer, types a text and runs it. */
  static int run(ShapedRows x, String text) {
    x.clearBuffer();
    type(x, text);
    return x.run();
  }

  void tell(String fault) {
    wrong++;
    if (wrong <= 40) {
      System.out.println(fault);
    }
  }

  void end(String name) {
    System.out.println(name + ": " + made + " checks, " + wrong + " wrong");
    if (wrong != 0 || made == 0) {
      System.exit(1);
    }
  }
}
