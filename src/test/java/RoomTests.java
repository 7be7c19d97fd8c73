import java.lang.management.ManagementFactory;

/** The longest runs that there can be stay in their room, and the machine itself never throws in them. */
public final class RoomTests {
  private static final int[] ODD = {
    Integer.MIN_VALUE, -100, -8, -7, -3, -2, -1, 0, 1, 2, 3, 4, 5, 6, 7, 8, 10, 12, 16, 23, 24, 25, 40, 62, 63, 64,
    96, 127, 128, 400, 401, 511, 512, 513, 2560, Integer.MAX_VALUE
  };

  private static int wrong = 0;

  private interface Call {
    void on(ChoraleDesk desk, int a, int b, int c, int d);
  }

  private static final Call[] CALLS = {
    (x, a, b, c, d) -> x.addNote(a, b, c, d), (x, a, b, c, d) -> x.addRest(a, b),
    (x, a, b, c, d) -> x.takeLast(a), (x, a, b, c, d) -> x.setPitch(a, b, c, d),
    (x, a, b, c, d) -> x.setMetre(a, b, c), (x, a, b, c, d) -> x.setKey(a, b),
    (x, a, b, c, d) -> x.setRange(a, b, c), (x, a, b, c, d) -> x.setShift(a, b, c),
    (x, a, b, c, d) -> x.events(a), (x, a, b, c, d) -> x.beginOf(a, b),
    (x, a, b, c, d) -> x.heightOf(a, b), (x, a, b, c, d) -> x.barOf(a, b),
    (x, a, b, c, d) -> x.writtenPlace(a, b), (x, a, b, c, d) -> x.writtenAlter(a, b),
    (x, a, b, c, d) -> x.alterIn(a, b), (x, a, b, c, d) -> x.writtenKey(a, b),
    (x, a, b, c, d) -> x.beginOfBar(a), (x, a, b, c, d) -> x.lengthOfBar(a),
    (x, a, b, c, d) -> x.signs(a, b), (x, a, b, c, d) -> x.eventOf(a, b, c),
    (x, a, b, c, d) -> x.lengthOf(a, b, c), (x, a, b, c, d) -> x.isTied(a, b, c),
    (x, a, b, c, d) -> x.shown(a, b, c), (x, a, b, c, d) -> x.shownWritten(a, b, c),
    (x, a, b, c, d) -> x.beams(a, b), (x, a, b, c, d) -> x.beamOf(a, b, c),
    (x, a, b, c, d) -> x.missing(a, b), (x, a, b, c, d) -> x.moments(),
    (x, a, b, c, d) -> x.tickOf(a), (x, a, b, c, d) -> x.sounds(a, b),
    (x, a, b, c, d) -> x.root(a), (x, a, b, c, d) -> x.kind(a),
    (x, a, b, c, d) -> x.inversion(a), (x, a, b, c, d) -> x.faults(),
    (x, a, b, c, d) -> x.kindOfFault(a), (x, a, b, c, d) -> x.tickOfFault(a),
    (x, a, b, c, d) -> x.partsOfFault(a), (x, a, b, c, d) -> x.faultsIfUp(a, b),
    (x, a, b, c, d) -> x.bars(), (x, a, b, c, d) -> x.widthOf(a),
    (x, a, b, c, d) -> x.lines(a), (x, a, b, c, d) -> x.lineOf(a, b),
    (x, a, b, c, d) -> x.costOf(a), (x, a, b, c, d) -> x.meanHeight(),
    (x, a, b, c, d) -> x.digest()
  };

  private static void due(String what, long got, long want) {
    if (got != want) {
      wrong++;
      System.out.println(what + " answered " + got + ", due is " + want);
    }
  }

  private static void callOddly(ChoraleDesk desk, Call call, int a, int b, int c, int d) {
    try {
      call.on(desk, a, b, c, d);
    } catch (RuntimeException e) {
      boolean told = e.getClass() == IndexOutOfBoundsException.class
          || e.getClass() == IllegalArgumentException.class || e.getClass() == IllegalStateException.class;
      if (!told || e.getStackTrace().length == 0
          || !e.getStackTrace()[0].getClassName().startsWith("ChoraleDesk")) {
        wrong++;
        System.out.println("the machine threw " + e);
      }
    }
  }

  private static void oddCalls() {
    long seed = 7;
    for (int run = 0; run < 400; run++) {
      ChoraleDesk desk = new ChoraleDesk();
      // Behind the 512th call answers are free, but the machine still must not throw.
      for (int call = 0; call < 1000; call++) {
        int[] row = new int[4];
        for (int i = 0; i < 4; i++) {
          seed = seed * 6364136223846793005L + 1442695040888963407L;
          row[i] = ODD[(int) ((seed >>> 33) % ODD.length)];
        }
        seed = seed * 6364136223846793005L + 1442695040888963407L;
        int which = (int) ((seed >>> 33) % (CALLS.length + 20));
        boolean written = which >= CALLS.length;
        callOddly(desk, CALLS[written ? 0 : which], written ? row[0] & 3 : row[0], row[1], row[2], row[3]);
      }
    }
  }

  /** The 512th call may still add a note. */
  private static void lastNote() {
    for (int shared = 2; shared <= 4; shared++) {
      ChoraleDesk desk = new ChoraleDesk();
      for (int note = 0; note < 512; note++) {
        due("addNote", desk.addNote(note % shared, 30, 0, 4), note / shared);
      }
    }
  }

  /** 511 notes in one part, so that a part, its moments and its faults are as many as can be. */
  private static void longestPart() {
    ChoraleDesk desk = new ChoraleDesk();
    desk.setMetre(0, 12, 2);
    for (int note = 0; note < 511; note++) {
      due("addNote", desk.addNote(2, note % 2 == 0 ? 1 : 62, 0, 4), note);
    }
    // All but the first one leap.
    due("faults of 511 notes", desk.faults(), 510);
    due("moments of 511 notes", desk.moments(), 511);
    due("signs of a bar", desk.signs(2, 0), 96);
    due("signs of a bar", desk.signs(2, 5), 511 - 5 * 96);
    desk.digest();
  }

  /** 127 notes in each part, each of which makes all the faults that it can. */
  private static void mostFaults() {
    ChoraleDesk desk = new ChoraleDesk();
    desk.setMetre(0, 12, 2);
    int[] low = {1, 8, 15, 22};
    for (int note = 0; note < 126; note++) {
      for (int part = 0; part < 4; part++) {
        desk.addNote(part, low[part] + 14 * (note % 2), 0, 4);
      }
    }
    for (int part = 0; part < 4; part++) {
      desk.setRange(part, 62, 62);
    }
    due("the most faults", desk.faults(), 126 * (6 + 4) + 125 * (6 + 4));
    due("kind of the last one", desk.kindOfFault(126 * 10 + 125 * 10 - 1), 4);
  }

  private static void noRoomTaken() {
    if (!(ManagementFactory.getThreadMXBean() instanceof com.sun.management.ThreadMXBean)) {
      return;
    }
    com.sun.management.ThreadMXBean bean = (com.sun.management.ThreadMXBean) ManagementFactory.getThreadMXBean();
    ChoraleDesk desk = new ChoraleDesk();
    for (int note = 0; note < 100; note++) {
      desk.addNote(note % 4, 20 + note % 9, 0, 16);
    }
    askAll(desk, 2);
    long before = bean.getThreadAllocatedBytes(Thread.currentThread().getId());
    askAll(desk, 100);
    long taken = bean.getThreadAllocatedBytes(Thread.currentThread().getId()) - before;
    // Not 0, since the measuring itself takes some.
    if (taken > 20000) {
      wrong++;
      System.out.println("the calls took " + taken + " bytes of room");
    }
  }

  private static void askAll(ChoraleDesk desk, int times) {
    for (int i = 0; i < times; i++) {
      desk.setPitch(i % 4, i % 20, 30, 0);
      desk.digest();
      desk.faultsIfUp(i % 4, i % 20);
      desk.lines(50);
      desk.shownWritten(0, i % 3, 0);
    }
  }

  public static void main(String[] args) {
    lastNote();
    longestPart();
    mostFaults();
    oddCalls();
    noRoomTaken();
    System.out.println(wrong == 0 ? "the room is enough" : wrong + " answers are not as due");
    if (wrong != 0) {
      System.exit(1);
    }
  }
}
