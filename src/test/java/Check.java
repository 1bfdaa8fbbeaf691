/** Counts checks, and tells those that fail. */
final class Check {
  interface Call {
    Object go();
  }

  private int passed;
  private int failed;
  private String about = "";

  void promise(int number) {
    about = "promise " + number + ": ";
  }

  private void tell(boolean ok, String text) {
    if (ok) {
      passed++;
    } else {
      failed++;
      System.out.println(about + text);
    }
  }

  void equal(String what, Object got, Object due) {
    tell(got.equals(due), what + " answered " + got + ", due is " + due);
  }

  void isTrue(String what, boolean got) {
    tell(got, what + " does not hold");
  }

  /** A subclass of what is due is an exception of the machine's, and not what is due. */
  void fails(String what, Class<? extends RuntimeException> due, Call call) {
    String got;
    try {
      got = "answered " + call.go();
    } catch (RuntimeException e) {
      got = "threw " + e.getClass().getSimpleName();
    }
    tell(got.equals("threw " + due.getSimpleName()), what + " " + got + ", due is " + due.getSimpleName());
  }

  void end(String name) {
    System.out.println(name + ": " + passed + " passed, " + failed + " failed");
    if (failed > 0) {
      System.exit(1);
    }
  }
}
