/** For each promise of the document, in its order, answers worked out by hand. */
public final class PromiseTests {
  private static final int INDEX = 1;
  private static final int ARGUMENT = 2;
  private static final int STATE = 3;
  private static final int MIN = Integer.MIN_VALUE;
  private static final int MAX = Integer.MAX_VALUE;

  private static int wrong = 0;

  private interface Call {
    long on(ChoraleDesk desk);
  }

  private static void due(int promise, String what, long got, long want) {
    if (got != want) {
      wrong++;
      System.out.println("promise " + promise + ": " + what + " answered " + got + ", due is " + want);
    }
  }

  /** A call that must throw, and change nothing. */
  private static void refused(int promise, String what, int kind, ChoraleDesk desk, Call call) {
    long before = desk.digest();
    int thrown = 0;
    try {
      call.on(desk);
    } catch (RuntimeException e) {
      thrown = e.getClass() == IndexOutOfBoundsException.class ? INDEX
          : e.getClass() == IllegalArgumentException.class ? ARGUMENT
          : e.getClass() == IllegalStateException.class ? STATE : -1;
    }
    due(promise, what + " throws (1 index, 2 argument, 3 state, 0 nothing, -1 another)", thrown, kind);
    due(promise, what + " changes", desk.digest() == before ? 0 : 1, 0);
  }

  /** One note in each part, and a rest behind that of part 1: E F# C and low A. */
  private static ChoraleDesk small() {
    ChoraleDesk desk = new ChoraleDesk();
    desk.addNote(0, 37, 0, 64);
    desk.addNote(1, 38, 1, 16);
    desk.addRest(1, 16);
    desk.addNote(2, 28, 0, 32);
    desk.addNote(3, 19, 0, 96);
    return desk;
  }

  private static void newObject() {
    ChoraleDesk desk = new ChoraleDesk();
    for (int part = 0; part < 4; part++) {
      due(1, "events", desk.events(part), 0);
      due(1, "writtenKey", desk.writtenKey(part, 23), 0);
      due(1, "signs", desk.signs(part, 0), 0);
      due(1, "missing", desk.missing(part, 5), 64);
    }
    for (int bar = 0; bar < 24; bar++) {
      due(1, "beginOfBar", desk.beginOfBar(bar), 64 * bar);
      due(1, "lengthOfBar", desk.lengthOfBar(bar), 64);
      due(1, "widthOf", desk.widthOf(bar), 11);
    }
    due(1, "moments", desk.moments(), 0);
    due(1, "faults", desk.faults(), 0);
    due(1, "bars", desk.bars(), 0);
    due(1, "range at first", desk.addNote(0, 1, 0, 64) + desk.addNote(0, 1, 0, 64) + desk.faults(), 1);
  }

  private static void addNote() {
    ChoraleDesk desk = small();
    due(2, "addNote", desk.addNote(0, 62, 2, 6), 1);
    due(2, "its begin", desk.beginOf(0, 1), 64);
    due(2, "its height", desk.heightOf(0, 1), 109);
    due(2, "addNote", desk.addNote(0, 1, -2, 96), 2);
    due(2, "its begin", desk.beginOf(0, 2), 70);
    due(2, "its height", desk.heightOf(0, 2), 0);
    int[] values = {64, 32, 16, 8, 4, 96, 48, 24, 12, 6};
    for (int i = 0; i < values.length; i++) {
      due(2, "addNote", new ChoraleDesk().addNote(3, 30, 0, values[i]), 0);
    }
    int[] none = {0, 1, 2, 3, 5, 7, 9, 10, 20, 33, 63, 65, 95, 97, 128, 192, -4, MIN, MAX};
    for (int i = 0; i < none.length; i++) {
      int value = none[i];
      refused(2, "addNote of value " + value, ARGUMENT, desk, d -> d.addNote(0, 30, 0, value));
    }
    refused(2, "addNote in part 4", INDEX, desk, d -> d.addNote(4, 30, 0, 16));
    refused(2, "addNote in part -1", INDEX, desk, d -> d.addNote(-1, 0, 3, 5));
    refused(2, "addNote in part MIN", INDEX, desk, d -> d.addNote(MIN, 30, 0, 16));
    refused(2, "addNote of place 0", ARGUMENT, desk, d -> d.addNote(0, 0, 0, 16));
    refused(2, "addNote of place 63", ARGUMENT, desk, d -> d.addNote(0, 63, 0, 16));
    refused(2, "addNote of alter -3", ARGUMENT, desk, d -> d.addNote(0, 30, -3, 16));
    refused(2, "addNote of alter 3", ARGUMENT, desk, d -> d.addNote(0, 30, 3, 16));
    fillToTheEnd();
  }

  private static void fillToTheEnd() {
    ChoraleDesk desk = new ChoraleDesk();
    desk.setMetre(0, 1, 8);
    due(2, "addNote", desk.addNote(2, 30, 0, 96), 0);
    due(2, "addNote", desk.addNote(2, 30, 0, 64), 1);
    due(2, "addNote up to the end", desk.addNote(2, 30, 0, 24), 2);
    refused(2, "addNote over the end", STATE, desk, d -> d.addNote(2, 30, 0, 12));
    due(2, "addNote up to the end", desk.addNote(2, 30, 0, 8), 3);
    refused(2, "addNote behind the end", STATE, desk, d -> d.addNote(2, 30, 0, 4));
    refused(2, "addNote behind the end, of no value", ARGUMENT, desk, d -> d.addNote(2, 30, 0, 5));
    refused(3, "addRest behind the end", STATE, desk, d -> d.addRest(2, 4));
    refused(3, "addRest behind the end, of no value", ARGUMENT, desk, d -> d.addRest(2, 5));
    due(2, "addNote in another part", desk.addNote(3, 30, 0, 4), 0);
    desk.setMetre(23, 2, 8);
    due(2, "addNote after another metre", desk.addNote(2, 30, 0, 8), 4);
    desk.setMetre(0, 1, 8);
    refused(2, "addNote behind a bar that got shorter", STATE, desk, d -> d.addNote(2, 30, 0, 4));
    due(2, "addNote in another part", desk.addNote(3, 30, 0, 4), 1);
  }

  private static void addRest() {
    ChoraleDesk desk = small();
    due(3, "addRest", desk.addRest(3, 24), 1);
    due(3, "its begin", desk.beginOf(3, 1), 96);
    due(3, "its height", desk.heightOf(3, 1), -1);
    due(3, "addRest", desk.addRest(3, 4), 2);
    due(3, "its begin", desk.beginOf(3, 2), 120);
    refused(3, "addRest in part 4", INDEX, desk, d -> d.addRest(4, 16));
    refused(3, "addRest in part -1", INDEX, desk, d -> d.addRest(-1, 5));
    refused(3, "addRest of value 0", ARGUMENT, desk, d -> d.addRest(0, 0));
    refused(3, "addRest of value 2", ARGUMENT, desk, d -> d.addRest(0, 2));
    refused(3, "addRest of value MAX", ARGUMENT, desk, d -> d.addRest(0, MAX));
  }

  private static void takeLast() {
    ChoraleDesk desk = small();
    due(4, "takeLast", desk.takeLast(1), 16);
    due(4, "events", desk.events(1), 1);
    due(4, "missing", desk.missing(1, 0), 48);
    due(4, "takeLast", desk.takeLast(3), 96);
    due(4, "bars", desk.bars(), 1);
    due(4, "addNote", desk.addNote(3, 20, 0, 8), 0);
    due(4, "begin", desk.beginOf(3, 0), 0);
    due(4, "takeLast", desk.takeLast(3), 8);
    refused(4, "takeLast of an empty part", STATE, desk, d -> d.takeLast(3));
    refused(4, "takeLast in part 4", INDEX, desk, d -> d.takeLast(4));
    refused(4, "takeLast in part -1", INDEX, desk, d -> d.takeLast(-1));
  }

  private static void setPitch() {
    ChoraleDesk desk = small();
    due(5, "setPitch", desk.setPitch(1, 0, 35, -1), 66);
    due(5, "height", desk.heightOf(1, 0), 59);
    due(5, "setPitch", desk.setPitch(1, 0, 62, 2), 59);
    due(5, "setPitch", desk.setPitch(1, 0, 1, -2), 109);
    due(5, "setPitch", desk.setPitch(1, 0, 1, -2), 0);
    refused(5, "setPitch in part 4", INDEX, desk, d -> d.setPitch(4, 0, 30, 0));
    refused(5, "setPitch in part -1", INDEX, desk, d -> d.setPitch(-1, 0, 30, 0));
    refused(5, "setPitch of no event", INDEX, desk, d -> d.setPitch(1, 2, 0, 0));
    refused(5, "setPitch of event -1", INDEX, desk, d -> d.setPitch(1, -1, 30, 0));
    refused(5, "setPitch to place 0", ARGUMENT, desk, d -> d.setPitch(1, 0, 0, 0));
    refused(5, "setPitch to place 63", ARGUMENT, desk, d -> d.setPitch(1, 0, 63, 0));
    refused(5, "setPitch to alter 3", ARGUMENT, desk, d -> d.setPitch(1, 0, 30, 3));
    refused(5, "setPitch to alter -3", ARGUMENT, desk, d -> d.setPitch(1, 0, 30, -3));
    refused(5, "setPitch of a rest to place 0", ARGUMENT, desk, d -> d.setPitch(1, 1, 0, 0));
    refused(5, "setPitch of a rest", STATE, desk, d -> d.setPitch(1, 1, 30, 0));
  }

  private static void setMetre() {
    ChoraleDesk desk = small();
    due(6, "setMetre", desk.setMetre(2, 3, 8), 24);
    due(6, "setMetre", desk.setMetre(5, 12, 2), 384);
    due(6, "bar 1", desk.lengthOfBar(1), 64);
    due(6, "bar 2", desk.lengthOfBar(2), 24);
    due(6, "bar 4", desk.lengthOfBar(4), 24);
    due(6, "bar 5", desk.lengthOfBar(5), 384);
    due(6, "bar 23", desk.lengthOfBar(23), 384);
    due(6, "setMetre", desk.setMetre(23, 1, 8), 8);
    due(6, "bar 22", desk.lengthOfBar(22), 384);
    due(6, "setMetre", desk.setMetre(0, 5, 4), 80);
    due(6, "bar 23", desk.beginOfBar(23), 1840);
    refused(6, "setMetre of bar 24", INDEX, desk, d -> d.setMetre(24, 0, 0));
    refused(6, "setMetre of bar -1", INDEX, desk, d -> d.setMetre(-1, 3, 4));
    refused(6, "setMetre of 0 beats", ARGUMENT, desk, d -> d.setMetre(0, 0, 4));
    refused(6, "setMetre of 13 beats", ARGUMENT, desk, d -> d.setMetre(0, 13, 4));
    int[] none = {0, 1, 3, 5, 6, 7, 16, -4, MIN, MAX};
    for (int i = 0; i < none.length; i++) {
      int unit = none[i];
      refused(6, "setMetre of unit " + unit, ARGUMENT, desk, d -> d.setMetre(0, 4, unit));
    }
  }

  private static void setKey() {
    ChoraleDesk desk = small();
    due(7, "setKey", desk.setKey(3, 7), 0);
    due(7, "setKey", desk.setKey(5, -7), 7);
    due(7, "setKey", desk.setKey(0, 1), 0);
    due(7, "setKey", desk.setKey(23, 2), 1);
    due(7, "setKey", desk.setKey(23, 2), 2);
    due(7, "setKey", desk.setKey(22, 0), 1);
    due(7, "setKey", desk.setKey(23, 0), 0);
    refused(7, "setKey of bar 24", INDEX, desk, d -> d.setKey(24, 8));
    refused(7, "setKey of bar -1", INDEX, desk, d -> d.setKey(-1, 0));
    refused(7, "setKey to 8", ARGUMENT, desk, d -> d.setKey(0, 8));
    refused(7, "setKey to -8", ARGUMENT, desk, d -> d.setKey(0, -8));
  }

  private static void setRange() {
    ChoraleDesk desk = small();
    desk.addNote(1, 30, 0, 4);
    due(8, "setRange", desk.setRange(1, 30, 38), 0);
    due(8, "setRange", desk.setRange(1, 31, 38), 1);
    due(8, "setRange", desk.setRange(1, 30, 37), 1);
    due(8, "setRange", desk.setRange(1, 31, 37), 2);
    due(8, "setRange", desk.setRange(1, 62, 62), 2);
    due(8, "setRange", desk.setRange(1, 1, 1), 2);
    due(8, "setRange", desk.setRange(1, 1, 62), 0);
    refused(8, "setRange of part 4", INDEX, desk, d -> d.setRange(4, 0, 0));
    refused(8, "setRange of part -1", INDEX, desk, d -> d.setRange(-1, 1, 62));
    refused(8, "setRange from 0", ARGUMENT, desk, d -> d.setRange(1, 0, 62));
    refused(8, "setRange from 63", ARGUMENT, desk, d -> d.setRange(1, 63, 63));
    refused(8, "setRange from 31 to 30", ARGUMENT, desk, d -> d.setRange(1, 31, 30));
    refused(8, "setRange to 63", ARGUMENT, desk, d -> d.setRange(1, 31, 63));
  }

  private static void setShift() {
    ChoraleDesk desk = small();
    due(9, "setShift", desk.setShift(1, 2, 0), 0);
    due(9, "setShift", desk.setShift(1, -6, 2), 0);
    due(9, "setShift of high places", desk.setShift(0, 6, 0), 0);
    due(9, "setShift of too high places", desk.setShift(0, 6, 1), 1);
    due(9, "setShift of too low places", desk.setShift(3, -4, -1), 1);
    desk.setPitch(1, 0, 34, 1);
    due(9, "setShift of B sharp", desk.setShift(1, 1, 0), 0);
    desk.setPitch(1, 0, 41, 2);
    due(9, "setShift of B with two sharps", desk.setShift(1, 1, -1), 1);
    due(9, "setShift back", desk.setShift(1, 0, 0), 0);
    refused(9, "setShift of part 4", INDEX, desk, d -> d.setShift(4, 7, 3));
    refused(9, "setShift of part -1", INDEX, desk, d -> d.setShift(-1, 0, 0));
    refused(9, "setShift by 7 fifths", ARGUMENT, desk, d -> d.setShift(1, 7, 0));
    refused(9, "setShift by -7 fifths", ARGUMENT, desk, d -> d.setShift(1, -7, 0));
    refused(9, "setShift by 3 octaves", ARGUMENT, desk, d -> d.setShift(1, 0, 3));
    refused(9, "setShift by -3 octaves", ARGUMENT, desk, d -> d.setShift(1, 0, -3));
  }

  private static void eventsAndPitches() {
    ChoraleDesk desk = small();
    due(10, "events", desk.events(0), 1);
    due(10, "events", desk.events(1), 2);
    refused(10, "events of part 4", INDEX, desk, d -> d.events(4));
    refused(10, "events of part -1", INDEX, desk, d -> d.events(-1));
    due(11, "beginOf", desk.beginOf(1, 0), 0);
    due(11, "beginOf", desk.beginOf(1, 1), 16);
    due(12, "heightOf", desk.heightOf(0, 0), 64);
    due(12, "heightOf", desk.heightOf(1, 0), 66);
    due(12, "heightOf a rest", desk.heightOf(1, 1), -1);
    int[][] none = {{4, 0}, {-1, 0}, {1, 2}, {1, -1}, {0, 1}, {MAX, MAX}, {0, MIN}};
    for (int i = 0; i < none.length; i++) {
      int part = none[i][0];
      int event = none[i][1];
      String at = " of event " + event + " in part " + part;
      refused(11, "beginOf" + at, INDEX, desk, d -> d.beginOf(part, event));
      refused(12, "heightOf" + at, INDEX, desk, d -> d.heightOf(part, event));
      refused(13, "barOf" + at, INDEX, desk, d -> d.barOf(part, event));
      refused(14, "writtenPlace" + at, INDEX, desk, d -> d.writtenPlace(part, event));
      refused(15, "writtenAlter" + at, INDEX, desk, d -> d.writtenAlter(part, event));
      refused(39, "faultsIfUp" + at, INDEX, desk, d -> d.faultsIfUp(part, event));
    }
    heights();
    barOf();
    written();
  }

  private static void heights() {
    int[] places = {28, 29, 30, 31, 32, 33, 34, 35, 1, 62};
    int[] due = {48, 50, 52, 53, 55, 57, 59, 60, 2, 107};
    for (int i = 0; i < places.length; i++) {
      for (int alter = -2; alter <= 2; alter++) {
        ChoraleDesk desk = new ChoraleDesk();
        desk.addNote(2, places[i], alter, 4);
        due(12, "heightOf", desk.heightOf(2, 0), due[i] + alter);
      }
    }
  }

  private static void barOf() {
    ChoraleDesk desk = new ChoraleDesk();
    desk.addNote(0, 30, 0, 48);
    desk.addNote(0, 30, 0, 16);
    desk.addRest(0, 64);
    desk.addNote(0, 30, 0, 96);
    due(13, "barOf", desk.barOf(0, 0), 0);
    due(13, "barOf", desk.barOf(0, 1), 0);
    due(13, "barOf", desk.barOf(0, 2), 1);
    due(13, "barOf", desk.barOf(0, 3), 2);
    desk.setMetre(1, 2, 8);
    due(13, "barOf", desk.barOf(0, 2), 1);
    due(13, "barOf", desk.barOf(0, 3), 5);
    desk.setMetre(0, 1, 8);
    due(13, "barOf", desk.barOf(0, 3), 16);
    desk.addNote(1, 30, 0, 96);
    desk.addNote(1, 30, 0, 64);
    desk.addNote(1, 30, 0, 24);
    desk.addNote(1, 30, 0, 8);
    due(13, "barOf the last bar", desk.barOf(1, 3), 23);
    desk.setMetre(0, 4, 4);
    desk.addNote(1, 30, 0, 8);
    desk.setMetre(0, 1, 8);
    due(13, "barOf behind the last bar", desk.barOf(1, 4), -1);
    due(13, "barOf the last bar", desk.barOf(1, 3), 23);
  }

  private static void written() {
    ChoraleDesk desk = small();
    due(14, "writtenPlace", desk.writtenPlace(1, 0), 38);
    due(15, "writtenAlter", desk.writtenAlter(1, 0), 1);
    due(14, "writtenPlace of a rest", desk.writtenPlace(1, 1), -1);
    due(15, "writtenAlter of a rest", desk.writtenAlter(1, 1), -3);
    desk.setShift(1, 2, -1);
    due(14, "writtenPlace", desk.writtenPlace(1, 0), 39);
    due(15, "writtenAlter", desk.writtenAlter(1, 0), 1);
    desk.setShift(1, -6, 2);
    due(14, "writtenPlace", desk.writtenPlace(1, 0), 28);
    due(15, "writtenAlter", desk.writtenAlter(1, 0), 0);
    desk.setPitch(1, 0, 34, 0);
    desk.setShift(1, 1, 0);
    due(14, "writtenPlace of B a fifth up", desk.writtenPlace(1, 0), 38);
    due(15, "writtenAlter of B a fifth up", desk.writtenAlter(1, 0), 1);
    desk.setPitch(1, 0, 34, 2);
    due(14, "writtenPlace of B## a fifth up", desk.writtenPlace(1, 0), -1);
    due(15, "writtenAlter of B## a fifth up", desk.writtenAlter(1, 0), -3);
    desk.setPitch(1, 0, 38, -2);
    desk.setShift(1, -1, 0);
    due(14, "writtenPlace of Fbb a fifth down", desk.writtenPlace(1, 0), -1);
    due(15, "writtenAlter of Fbb a fifth down", desk.writtenAlter(1, 0), -3);
    desk.setPitch(1, 0, 5, 0);
    due(14, "writtenPlace 1", desk.writtenPlace(1, 0), 1);
    desk.setPitch(1, 0, 4, 0);
    due(14, "writtenPlace 0", desk.writtenPlace(1, 0), -1);
    due(15, "writtenAlter of place 0", desk.writtenAlter(1, 0), -3);
    desk.setShift(1, 0, 2);
    desk.setPitch(1, 0, 48, -1);
    due(14, "writtenPlace 62", desk.writtenPlace(1, 0), 62);
    due(15, "writtenAlter of place 62", desk.writtenAlter(1, 0), -1);
    desk.setPitch(1, 0, 49, 0);
    due(14, "writtenPlace 63", desk.writtenPlace(1, 0), -1);
  }

  private static void keys() {
    ChoraleDesk desk = new ChoraleDesk();
    int[] order = {3, 0, 4, 1, 5, 2, 6};
    for (int turn = 0; turn < 7; turn++) {
      for (int key = -7; key <= 7; key++) {
        int want = key > turn ? 1 : key < turn - 6 ? -1 : 0;
        due(16, "alterIn(" + key + ", " + order[turn] + ")", desk.alterIn(key, order[turn]), want);
      }
    }
    due(16, "alterIn of F sharp", desk.alterIn(1, 3), 1);
    due(16, "alterIn of B flat", desk.alterIn(-1, 6), -1);
    due(16, "alterIn of F flat", desk.alterIn(-6, 3), 0);
    refused(16, "alterIn of key 8", ARGUMENT, desk, d -> d.alterIn(8, 0));
    refused(16, "alterIn of key -8", ARGUMENT, desk, d -> d.alterIn(-8, 0));
    refused(16, "alterIn of step 7", ARGUMENT, desk, d -> d.alterIn(0, 7));
    refused(16, "alterIn of step -1", ARGUMENT, desk, d -> d.alterIn(0, -1));
    desk.setKey(1, 5);
    desk.setKey(2, -5);
    desk.setShift(2, 2, 0);
    desk.setShift(3, 3, 1);
    due(17, "writtenKey", desk.writtenKey(2, 0), 2);
    due(17, "writtenKey", desk.writtenKey(2, 1), 7);
    due(17, "writtenKey", desk.writtenKey(3, 1), -4);
    due(17, "writtenKey", desk.writtenKey(0, 1), 5);
    desk.setShift(2, -2, 0);
    desk.setShift(3, -3, 0);
    due(17, "writtenKey", desk.writtenKey(2, 2), -7);
    due(17, "writtenKey", desk.writtenKey(3, 2), 4);
    refused(17, "writtenKey of part 4", INDEX, desk, d -> d.writtenKey(4, 0));
    refused(17, "writtenKey of part -1", INDEX, desk, d -> d.writtenKey(-1, 0));
    refused(17, "writtenKey of bar 24", INDEX, desk, d -> d.writtenKey(0, 24));
    refused(17, "writtenKey of bar -1", INDEX, desk, d -> d.writtenKey(0, -1));
  }

  private static void barsInTime() {
    ChoraleDesk desk = new ChoraleDesk();
    desk.setMetre(1, 3, 4);
    desk.setMetre(2, 7, 8);
    desk.setMetre(3, 3, 2);
    int[] begins = {0, 64, 112, 168, 264, 360};
    int[] lengths = {64, 48, 56, 96, 96, 96};
    for (int bar = 0; bar < begins.length; bar++) {
      due(18, "beginOfBar", desk.beginOfBar(bar), begins[bar]);
      due(19, "lengthOfBar", desk.lengthOfBar(bar), lengths[bar]);
    }
    due(18, "beginOfBar", desk.beginOfBar(23), 168 + 20 * 96);
    int[] none = {24, -1, MIN, MAX};
    for (int i = 0; i < none.length; i++) {
      int bar = none[i];
      refused(18, "beginOfBar " + bar, INDEX, desk, d -> d.beginOfBar(bar));
      refused(19, "lengthOfBar " + bar, INDEX, desk, d -> d.lengthOfBar(bar));
      refused(20, "signs in bar " + bar, INDEX, desk, d -> d.signs(0, bar));
      refused(26, "beams in bar " + bar, INDEX, desk, d -> d.beams(0, bar));
      refused(28, "missing in bar " + bar, INDEX, desk, d -> d.missing(0, bar));
      refused(41, "widthOf " + bar, INDEX, desk, d -> d.widthOf(bar));
      refused(43, "lineOf " + bar, INDEX, desk, d -> d.lineOf(40, bar));
      refused(43, "lineOf " + bar + " of no width", INDEX, desk, d -> d.lineOf(9, bar));
    }
  }

  private static void signs() {
    ChoraleDesk desk = new ChoraleDesk();
    desk.addNote(1, 30, 0, 24);
    desk.addNote(1, 31, 0, 96);
    desk.addRest(1, 96);
    desk.addNote(1, 32, 0, 6);
    // Bar 0: 24, then 40 of 96 as 32 and 8; bar 1: 56 as 48 and 8, then 8 of the rest.
    due(20, "signs", desk.signs(1, 0), 3);
    due(20, "signs", desk.signs(1, 1), 3);
    due(20, "signs", desk.signs(1, 2), 1);
    due(20, "signs", desk.signs(1, 3), 2);
    due(20, "signs", desk.signs(1, 4), 0);
    due(20, "signs", desk.signs(0, 0), 0);
    int[][] events = {{0, 1, 1}, {1, 1, 2}, {2}, {2, 3}};
    int[][] lengths = {{24, 32, 8}, {48, 8, 8}, {64}, {24, 6}};
    int[][] ties = {{0, 1, 1}, {1, 0, 0}, {0}, {0, 0}};
    for (int bar = 0; bar < events.length; bar++) {
      for (int sign = 0; sign < events[bar].length; sign++) {
        String at = " of bar " + bar + ", sign " + sign;
        due(21, "eventOf" + at, desk.eventOf(1, bar, sign), events[bar][sign]);
        due(22, "lengthOf" + at, desk.lengthOf(1, bar, sign), lengths[bar][sign]);
        due(23, "isTied" + at, desk.isTied(1, bar, sign) ? 1 : 0, ties[bar][sign]);
      }
    }
    int[][] none = {{4, 0, 0}, {-1, 0, 0}, {1, 24, 0}, {1, -1, 0}, {1, 0, 3}, {1, 0, -1}, {0, 0, 0}, {1, 4, 0}};
    for (int i = 0; i < none.length; i++) {
      int p = none[i][0];
      int b = none[i][1];
      int s = none[i][2];
      String at = "(" + p + ", " + b + ", " + s + ")";
      refused(21, "eventOf" + at, INDEX, desk, d -> d.eventOf(p, b, s));
      refused(22, "lengthOf" + at, INDEX, desk, d -> d.lengthOf(p, b, s));
      refused(23, "isTied" + at, INDEX, desk, d -> d.isTied(p, b, s) ? 1 : 0);
      refused(24, "shown" + at, INDEX, desk, d -> d.shown(p, b, s));
      refused(25, "shownWritten" + at, INDEX, desk, d -> d.shownWritten(p, b, s));
      refused(27, "beamOf" + at, INDEX, desk, d -> d.beamOf(p, b, s));
    }
    refused(20, "signs of part 4", INDEX, desk, d -> d.signs(4, 0));
    refused(20, "signs of part -1", INDEX, desk, d -> d.signs(-1, 0));
    stretches();
    tiesOverTheEnd();
  }

  /** Lengths that a stretch can have, at the end of bar 0 and the begin of bar 1, each 384 ticks long. */
  private static void stretches() {
    int[][] due = {
      {2, 2}, {4, 4}, {6, 6}, {8, 8}, {10, 8, 2}, {12, 12}, {14, 12, 2}, {16, 16}, {18, 16, 2}, {20, 16, 4},
      {22, 16, 6}, {24, 24}, {26, 24, 2}, {28, 24, 4}, {30, 24, 6}, {32, 32}, {34, 32, 2}, {40, 32, 8},
      {42, 32, 8, 2}, {44, 32, 12}, {46, 32, 12, 2}, {48, 48}, {56, 48, 8}, {62, 48, 12, 2}, {64, 64},
      {66, 64, 2}, {80, 64, 16}, {88, 64, 24}, {90, 64, 24, 2}, {94, 64, 24, 6}, {96, 96}
    };
    for (int i = 0; i < due.length; i++) {
      ChoraleDesk desk = new ChoraleDesk();
      desk.setMetre(0, 12, 2);
      int before = 384 - (96 - due[i][0]);
      fillWithRests(desk, before);
      desk.addNote(0, 30, 0, 96);
      due(11, "beginOf", desk.beginOf(0, desk.events(0) - 1), before);
      due(20, "signs of a stretch of " + due[i][0], desk.signs(0, 1), due[i].length - 1);
      for (int sign = 1; sign < due[i].length && sign <= desk.signs(0, 1); sign++) {
        due(22, "lengthOf, stretch " + due[i][0], desk.lengthOf(0, 1, sign - 1), due[i][sign]);
        due(23, "isTied, stretch " + due[i][0], desk.isTied(0, 1, sign - 1) ? 1 : 0, sign + 1 < due[i].length ? 1 : 0);
      }
    }
  }

  private static void fillWithRests(ChoraleDesk desk, int ticks) {
    int left = ticks;
    if (left % 4 == 2) {
      desk.addRest(0, 6);
      left -= 6;
    }
    for (; left >= 4; left -= 4) {
      desk.addRest(0, 4);
    }
  }

  private static void tiesOverTheEnd() {
    ChoraleDesk desk = new ChoraleDesk();
    desk.addNote(0, 30, 0, 96);
    desk.addNote(0, 30, 0, 96);
    desk.addNote(0, 30, 0, 32);
    desk.addRest(0, 8);
    desk.setMetre(0, 1, 8);
    due(23, "isTied over a bar line", desk.isTied(0, 22, 0) ? 1 : 0, 1);
    due(23, "isTied at the end of the note", desk.isTied(0, 11, 0) ? 1 : 0, 0);
    due(23, "isTied at the end of the last bar", desk.isTied(0, 23, 0) ? 1 : 0, 0);
    desk.setMetre(0, 1, 4);
    due(23, "isTied after another metre", desk.isTied(0, 11, 0) ? 1 : 0, 0);
    due(23, "isTied after another metre", desk.isTied(0, 10, 0) ? 1 : 0, 1);
  }

  private static void accidentals() {
    ChoraleDesk desk = new ChoraleDesk();
    desk.setKey(0, 1);
    // F sharp as the key has it, F, F again, F sharp, F an octave up, B flat over the bar line, B.
    desk.addNote(0, 38, 1, 8);
    desk.addNote(0, 38, 0, 8);
    desk.addNote(0, 38, 0, 8);
    desk.addNote(0, 38, 1, 8);
    desk.addNote(0, 45, 0, 16);
    desk.addNote(0, 41, -1, 32);
    desk.addNote(0, 41, -1, 8);
    desk.addNote(0, 38, 1, 8);
    desk.addNote(0, 41, 0, 4);
    desk.addNote(0, 41, 2, 4);
    desk.addNote(0, 41, -2, 4);
    int[][] due = {{-3, 0, -3, 1, 0, -1}, {-3, -1, -3, 0, 2, -2}};
    for (int bar = 0; bar < due.length; bar++) {
      for (int sign = 0; sign < due[bar].length; sign++) {
        due(24, "shown in bar " + bar + ", sign " + sign, desk.shown(0, bar, sign), due[bar][sign]);
        due(25, "shownWritten in bar " + bar + ", sign " + sign, desk.shownWritten(0, bar, sign), due[bar][sign]);
      }
    }
    // A follower in the same bar: the 20 ticks in bar 0 are 16 and 4.
    ChoraleDesk tied = new ChoraleDesk();
    tied.addRest(1, 32);
    tied.addRest(1, 12);
    tied.addNote(1, 34, 1, 24);
    tied.addNote(1, 34, 1, 8);
    due(24, "shown by the first sign", tied.shown(1, 0, 2), 1);
    due(24, "shown by a follower", tied.shown(1, 0, 3), -3);
    due(24, "shown by a follower in the next bar", tied.shown(1, 1, 0), -3);
    due(24, "shown behind a follower", tied.shown(1, 1, 1), 1);
    due(24, "shown by a rest", tied.shown(1, 0, 0), -3);
    accidentalsAsWritten();
  }

  private static void accidentalsAsWritten() {
    ChoraleDesk desk = new ChoraleDesk();
    desk.setShift(2, 2, 0);
    desk.addNote(2, 35, 0, 16);
    desk.addNote(2, 38, 0, 16);
    desk.addNote(2, 38, 1, 16);
    desk.addNote(2, 41, 2, 8);
    desk.addNote(2, 41, 0, 8);
    due(25, "shownWritten of C as D", desk.shownWritten(2, 0, 0), -3);
    due(25, "shownWritten of F as G", desk.shownWritten(2, 0, 1), -3);
    due(25, "shownWritten of F sharp as G sharp", desk.shownWritten(2, 0, 2), 1);
    due(25, "shownWritten without a written pitch", desk.shownWritten(2, 0, 3), -3);
    due(25, "shownWritten of B as C sharp", desk.shownWritten(2, 0, 4), -3);
    due(24, "shown of B sharp sharp", desk.shown(2, 0, 3), 2);
    due(24, "shown of B", desk.shown(2, 0, 4), 0);
    desk.setKey(0, 6);
    due(25, "shownWritten of C as D in A flat", desk.shownWritten(2, 0, 0), 0);
    due(25, "writtenKey", desk.writtenKey(2, 0), -4);
  }

  /** Answers that could be kept follow each writing at once. */
  private static void followsTheWriting() {
    ChoraleDesk desk = new ChoraleDesk();
    desk.addNote(0, 38, 1, 16);
    due(24, "shown", desk.shown(0, 0, 0), 1);
    desk.setPitch(0, 0, 38, -1);
    due(5, "shown after setPitch", desk.shown(0, 0, 0), -1);
    desk.setKey(0, -7);
    due(7, "shown after setKey", desk.shown(0, 0, 0), -3);
    due(7, "shownWritten after setKey", desk.shownWritten(0, 0, 0), -3);
    desk.setShift(0, -6, 0);
    due(9, "shownWritten after setShift", desk.shownWritten(0, 0, 0), -2);
    desk.setPitch(0, 0, 38, 0);
    due(5, "shownWritten after setPitch", desk.shownWritten(0, 0, 0), -1);
    desk.setShift(0, 0, 0);
    due(9, "shownWritten after setShift", desk.shownWritten(0, 0, 0), 0);
    due(20, "signs", desk.signs(0, 0), 1);
    desk.setMetre(0, 1, 8);
    due(6, "signs after setMetre", desk.signs(0, 0), 1);
    due(6, "lengthOf after setMetre", desk.lengthOf(0, 0, 0), 8);
    desk.setMetre(0, 4, 4);
    due(6, "lengthOf after setMetre", desk.lengthOf(0, 0, 0), 16);
    desk.addRest(0, 8);
    due(3, "signs after addRest", desk.signs(0, 0), 2);
    due(3, "moments after addRest", desk.moments(), 2);
    desk.addNote(0, 38, 0, 8);
    due(2, "signs after addNote", desk.signs(0, 0), 3);
    due(2, "moments after addNote", desk.moments(), 3);
    due(35, "faults", desk.faults(), 0);
    due(41, "widthOf", desk.widthOf(0), 3 + 2 + 6 + 5 + 7);
    desk.setRange(0, 1, 37);
    due(8, "faults after setRange", desk.faults(), 2);
    desk.takeLast(0);
    due(4, "faults after takeLast", desk.faults(), 1);
    due(4, "signs after takeLast", desk.signs(0, 0), 2);
    due(4, "moments after takeLast", desk.moments(), 2);
    due(4, "widthOf after takeLast", desk.widthOf(0), 3 + 2 + 6 + 7);
    desk.setKey(0, 0);
    due(7, "widthOf after setKey", desk.widthOf(0), 3 + 6 + 7);
    desk.setMetre(0, 3, 4);
    due(6, "widthOf after setMetre", desk.widthOf(0), 3 + 6 + 7);
    desk.setMetre(0, 2, 4);
    due(6, "widthOf after setMetre", desk.widthOf(0), 3 + 6 + 6);
  }

  private static void beams() {
    ChoraleDesk desk = new ChoraleDesk();
    int[] values = {8, 8, 8, 4, 4, 12, 4, 16};
    for (int i = 0; i < values.length; i++) {
      desk.addNote(0, 35, 0, values[i]);
    }
    int[] due = {0, 0, 1, 1, 1, 2, 2, -1};
    due(26, "beams", desk.beams(0, 0), 3);
    for (int sign = 0; sign < due.length; sign++) {
      due(27, "beamOf sign " + sign, desk.beamOf(0, 0, sign), due[sign]);
    }
    // A rest, a long note and a lonely short one break the rows.
    int[] more = {4, -4, 4, 4, 8, 8, 24};
    for (int i = 0; i < more.length; i++) {
      if (more[i] < 0) {
        desk.addRest(0, -more[i]);
      } else {
        desk.addNote(0, 35, 0, more[i]);
      }
    }
    int[] dueNext = {-1, -1, 0, 0, 1, 1, -1};
    due(26, "beams", desk.beams(0, 1), 2);
    for (int sign = 0; sign < dueNext.length; sign++) {
      due(27, "beamOf sign " + sign, desk.beamOf(0, 1, sign), dueNext[sign]);
    }
    due(26, "beams of an empty bar", desk.beams(0, 2), 0);
    refused(26, "beams of part 4", INDEX, desk, d -> d.beams(4, 0));
    refused(26, "beams of part -1", INDEX, desk, d -> d.beams(-1, 0));
    beamsByMetre();
  }

  private static void beamsByMetre() {
    // How many notes of 8 ticks the first beam has, by beats and unit.
    int[][] metres = {
      {3, 8, 3}, {6, 8, 3}, {9, 8, 3}, {12, 8, 3}, {2, 8, 2}, {4, 8, 2}, {7, 8, 2}, {8, 8, 2}, {10, 8, 2},
      {3, 4, 2}, {6, 4, 2}, {12, 4, 2}, {3, 2, 4}, {1, 2, 4}, {2, 2, 4}, {1, 4, 2}
    };
    for (int i = 0; i < metres.length; i++) {
      ChoraleDesk desk = new ChoraleDesk();
      desk.setMetre(0, metres[i][0], metres[i][1]);
      for (int note = 0; note < 8; note++) {
        desk.addNote(3, 20, 0, 8);
      }
      int first = 0;
      for (int sign = 0; sign < desk.signs(3, 0); sign++) {
        first += desk.beamOf(3, 0, sign) == 0 ? 1 : 0;
      }
      due(27, "notes of the first beam in " + metres[i][0] + " and " + metres[i][1], first, metres[i][2]);
    }
  }

  private static void missing() {
    ChoraleDesk desk = small();
    due(28, "missing", desk.missing(0, 0), 0);
    due(28, "missing", desk.missing(0, 1), 64);
    due(28, "missing", desk.missing(1, 0), 32);
    due(28, "missing", desk.missing(3, 1), 32);
    refused(28, "missing of part 4", INDEX, desk, d -> d.missing(4, 0));
    refused(28, "missing of part -1", INDEX, desk, d -> d.missing(-1, 0));
  }

  private static void momentsAndSounds() {
    ChoraleDesk desk = small();
    desk.addRest(0, 16);
    desk.addNote(1, 36, 0, 64);
    // Ticks 0, 16 (the rest of part 1), 32 and 64.
    due(29, "moments", desk.moments(), 4);
    int[] ticks = {0, 16, 32, 64};
    int[][] sounds = {{64, 66, 48, 33}, {64, -1, 48, 33}, {64, 62, -1, 33}, {-1, 62, -1, 33}};
    for (int moment = 0; moment < ticks.length; moment++) {
      due(30, "tickOf", desk.tickOf(moment), ticks[moment]);
      for (int part = 0; part < 4; part++) {
        due(31, "sounds(" + moment + ", " + part + ")", desk.sounds(moment, part), sounds[moment][part]);
      }
    }
    int[] none = {4, -1, MIN, MAX};
    for (int i = 0; i < none.length; i++) {
      int moment = none[i];
      refused(30, "tickOf " + moment, INDEX, desk, d -> d.tickOf(moment));
      refused(31, "sounds at " + moment, INDEX, desk, d -> d.sounds(moment, 0));
      refused(31, "sounds of part " + moment, INDEX, desk, d -> d.sounds(0, moment));
      refused(32, "root at " + moment, INDEX, desk, d -> d.root(moment));
      refused(33, "kind at " + moment, INDEX, desk, d -> d.kind(moment));
      refused(34, "inversion at " + moment, INDEX, desk, d -> d.inversion(moment));
    }
    ChoraleDesk behind = new ChoraleDesk();
    behind.addNote(0, 30, 0, 96);
    behind.addNote(0, 30, 0, 96);
    behind.addNote(0, 30, 0, 96);
    behind.setMetre(0, 1, 8);
    due(29, "moments behind the last bar", behind.moments(), 3);
    due(40, "bars", behind.bars(), 24);
    due(13, "barOf behind the last bar", behind.barOf(0, 2), -1);
    due(28, "missing in the last bar", behind.missing(0, 23), 0);
  }

  /** Answers root, kind and inversion of notes that sound together, as root * 100 + kind * 10 + inversion. */
  private static long chord(int... placesAndAlters) {
    ChoraleDesk desk = new ChoraleDesk();
    for (int i = 0; i + 1 < placesAndAlters.length; i += 2) {
      desk.addNote(i / 2, placesAndAlters[i], placesAndAlters[i + 1], 16);
    }
    int root = desk.root(0);
    int kind = desk.kind(0);
    int inversion = desk.inversion(0);
    if (root == -1 || kind == -1 || inversion == -1) {
      return root + kind + inversion == -3 ? -1 : -2;
    }
    return root * 100 + kind * 10 + inversion;
  }

  private static void chords() {
    due(32, "chord of C E G", chord(39, 0, 37, 0, 35, 0, 28, 0), 0);
    due(34, "chord of C E G over E", chord(39, 0, 35, 0, 30, 0), 1);
    due(34, "chord of C E G over G", chord(37, 0, 35, 0, 25, 0), 2);
    due(32, "chord of B D# F#", chord(38, 1, 36, 1, 34, 0), 1100);
    due(33, "chord of A C E", chord(37, 0, 35, 0, 33, 0), 910);
    due(34, "chord of A C E over C", chord(37, 0, 33, 0, 28, 0), 911);
    due(34, "chord of A C E over E", chord(33, 0, 35, 0, 30, 0), 912);
    due(33, "chord of B D F", chord(38, 0, 36, 0, 34, 0), 1120);
    due(34, "chord of B D F over D", chord(38, 0, 34, 0, 29, 0), 1121);
    due(34, "chord of B D F over F", chord(36, 0, 34, 0, 31, 0), 1122);
    due(33, "chord of C E G#", chord(39, 1, 37, 0, 35, 0), 30);
    due(33, "chord of C E G# over E", chord(39, 1, 35, 0, 30, 0), 430);
    due(33, "chord of C E G# over G#", chord(37, 0, 35, 0, 25, 1), 830);
    due(32, "chord with the lowest note in the highest part", chord(28, 0, 37, 0, 39, 0), 0);
    due(34, "chord with the lowest note in the second part", chord(35, 0, 30, 0, 39, 0), 1);
    due(32, "chord of C E", chord(35, 0, 37, 0), -1);
    due(32, "chord of C E G B", chord(35, 0, 37, 0, 39, 0, 41, 0), -1);
    due(32, "chord of C D E", chord(35, 0, 36, 0, 37, 0), -1);
    due(32, "chord of C alone", chord(35, 0), -1);
    due(32, "chord of Cb and B and D F", chord(35, -1, 34, 0, 36, 0, 38, 0), 1120);
    ChoraleDesk desk = new ChoraleDesk();
    desk.addRest(0, 16);
    due(32, "root of a rest", desk.root(0), -1);
    due(33, "kind of a rest", desk.kind(0), -1);
    due(34, "inversion of a rest", desk.inversion(0), -1);
  }

  private static void faultDue(ChoraleDesk desk, int fault, int kind, int tick, int parts) {
    due(36, "kindOfFault " + fault, desk.kindOfFault(fault), kind);
    due(37, "tickOfFault " + fault, desk.tickOfFault(fault), tick);
    due(38, "partsOfFault " + fault, desk.partsOfFault(fault), parts);
  }

  /** How many faults two parts have, each with two notes of 16 ticks. */
  private static long faultsOf(int p0, int p1, int q0, int q1) {
    ChoraleDesk desk = new ChoraleDesk();
    desk.addNote(1, p0, 0, 16);
    desk.addNote(1, p1, 0, 16);
    desk.addNote(2, q0, 0, 16);
    desk.addNote(2, q1, 0, 16);
    return desk.faults() == 0 ? -1 : desk.faults() * 10 + desk.kindOfFault(0);
  }

  private static void faults() {
    due(35, "faults of C-G to D-A", faultsOf(39, 40, 35, 36), 10);
    due(35, "faults of D-A to C-G", faultsOf(40, 39, 36, 35), 10);
    due(35, "faults of C-G to a D-A an octave wider", faultsOf(39, 47, 35, 36), 20);
    due(35, "faults of C-C to D-D", faultsOf(42, 43, 35, 36), 11);
    due(35, "faults of one sound", faultsOf(35, 36, 35, 36), 11);
    due(35, "faults of C-G that stays", faultsOf(39, 39, 35, 35), -1);
    due(35, "faults of a fifth by moving apart", faultsOf(39, 43, 35, 32), -1);
    due(35, "faults of C-G to C-C", faultsOf(39, 43, 35, 36), -1);
    due(35, "faults of a fourth", faultsOf(38, 39, 35, 36), -1);
    due(35, "crossed fourth, that leaves 7", faultsOf(35, 36, 38, 39), 32);
    due(35, "crossed fifth, that leaves 5", faultsOf(35, 36, 39, 40), 22);
    due(35, "leap of an octave", faultsOf(42, 35, 30, 30), -1);
    due(35, "leap of more", faultsOf(43, 35, 30, 30), 13);
    due(35, "leap of more, up", faultsOf(35, 43, 30, 30), 13);
    orderOfFaults();
    faultsOverRests();
    faultsIfUp();
  }

  private static void orderOfFaults() {
    ChoraleDesk desk = new ChoraleDesk();
    desk.addNote(0, 32, 0, 16);
    desk.addNote(1, 39, 0, 16);
    desk.addNote(2, 35, 0, 16);
    desk.addNote(3, 28, 0, 16);
    desk.addNote(0, 41, 0, 16);
    desk.addNote(1, 48, 0, 16);
    desk.addNote(2, 44, 0, 16);
    desk.addNote(3, 37, 0, 16);
    desk.setRange(1, 39, 47);
    desk.setRange(3, 29, 37);
    // At 0: part 0 (G 55) lies below 1 (G 67) and 2 (C 60), 3 (C 48) out of its range.
    // At 16: B, B, E and E, a third up, all of them more than an octave up.
    int[][] due = {
      {2, 0, 1}, {2, 0, 2}, {4, 0, 3},
      {1, 16, 1}, {0, 16, 2}, {0, 16, 3}, {0, 16, 6}, {0, 16, 7}, {1, 16, 11}, {2, 16, 1},
      {2, 16, 2}, {3, 16, 0}, {3, 16, 1}, {4, 16, 1}, {3, 16, 2}, {3, 16, 3}
    };
    due(35, "faults", desk.faults(), due.length);
    for (int fault = 0; fault < due.length && fault < desk.faults(); fault++) {
      faultDue(desk, fault, due[fault][0], due[fault][1], due[fault][2]);
    }
    int[] none = {due.length, -1, MIN, MAX};
    for (int i = 0; i < none.length; i++) {
      int fault = none[i];
      refused(36, "kindOfFault " + fault, INDEX, desk, d -> d.kindOfFault(fault));
      refused(37, "tickOfFault " + fault, INDEX, desk, d -> d.tickOfFault(fault));
      refused(38, "partsOfFault " + fault, INDEX, desk, d -> d.partsOfFault(fault));
    }
    desk.setRange(1, 1, 62);
    due(35, "faults after another range", desk.faults(), due.length - 1);
    desk.setPitch(3, 0, 29, 0);
    desk.setPitch(3, 1, 29, 0);
    due(35, "faults after other pitches", desk.faults(), 10);
    desk.takeLast(0);
    due(35, "faults without a note", desk.faults(), 5);
  }

  private static void faultsOverRests() {
    ChoraleDesk desk = new ChoraleDesk();
    desk.addNote(0, 39, 0, 16);
    desk.addRest(0, 16);
    desk.addNote(0, 48, 0, 16);
    desk.addNote(1, 35, 0, 16);
    desk.addRest(1, 16);
    desk.addNote(1, 44, 0, 16);
    due(35, "faults over rests", desk.faults(), 0);
    // The moment between is one of another part, and both notes still sound then.
    ChoraleDesk held = new ChoraleDesk();
    held.addNote(0, 39, 0, 16);
    held.addNote(0, 40, 0, 16);
    held.addNote(3, 35, 0, 16);
    held.addNote(3, 36, 0, 16);
    held.addRest(1, 8);
    due(35, "faults over a moment between", held.faults(), 1);
    faultDue(held, 0, 0, 16, 3);
    // One of the two is held, or has moved ahead of it.
    ChoraleDesk moved = new ChoraleDesk();
    moved.addNote(0, 39, 0, 16);
    moved.addNote(0, 40, 0, 16);
    moved.addNote(1, 35, 0, 8);
    moved.addNote(1, 36, 0, 24);
    due(35, "faults if one has moved ahead", moved.faults(), 0);
    // A crossing counts when one of both begins, and again when the other one does.
    ChoraleDesk crossed = new ChoraleDesk();
    crossed.addNote(0, 35, 0, 32);
    crossed.addNote(2, 36, 0, 16);
    crossed.addNote(2, 37, 0, 16);
    crossed.addRest(3, 8);
    crossed.addRest(3, 16);
    due(35, "crossings", crossed.faults(), 2);
    faultDue(crossed, 0, 2, 0, 2);
    faultDue(crossed, 1, 2, 16, 2);
  }

  private static void faultsIfUp() {
    ChoraleDesk desk = small();
    due(35, "faults", desk.faults(), 1);
    due(39, "faultsIfUp", desk.faultsIfUp(0, 0), 0);
    due(39, "faultsIfUp", desk.faultsIfUp(1, 0), 1);
    due(39, "faultsIfUp", desk.faultsIfUp(2, 0), 1);
    due(35, "faults afterwards", desk.faults(), 1);
    due(12, "height afterwards", desk.heightOf(0, 0), 64);
    desk.addNote(0, 55, 0, 16);
    desk.addNote(0, 56, 0, 16);
    desk.setRange(0, 37, 44);
    due(35, "faults", desk.faults(), 4);
    due(39, "faultsIfUp", desk.faultsIfUp(0, 1), 4);
    due(39, "faultsIfUp of place 56", desk.faultsIfUp(0, 2), -1);
    due(39, "faultsIfUp of the first", desk.faultsIfUp(0, 0), 3);
    refused(39, "faultsIfUp of a rest", STATE, desk, d -> d.faultsIfUp(1, 1));
    long before = desk.digest();
    desk.faultsIfUp(0, 1);
    due(39, "a changed digest", desk.digest() == before ? 0 : 1, 0);
  }

  private static void lines() {
    ChoraleDesk desk = new ChoraleDesk();
    due(42, "lines without bars", desk.lines(10), 0);
    due(43, "lineOf without bars", desk.lineOf(10, 0), -1);
    due(44, "costOf without bars", desk.costOf(400), 0);
    due(45, "meanHeight without notes", desk.meanHeight() == 0.0 ? 1 : 0, 1);
    desk.addRest(3, 64);
    due(40, "bars", desk.bars(), 1);
    due(45, "meanHeight of a rest", desk.meanHeight() == 0.0 ? 1 : 0, 1);
    desk.addRest(0, 96);
    due(40, "bars", desk.bars(), 2);
    for (int i = 0; i < 23; i++) {
      desk.addRest(1, 64);
    }
    due(40, "bars", desk.bars(), 23);
    due(41, "widthOf", desk.widthOf(0), 11);
    // Bar 1 has a begin of part 0 at its middle: 3, twice 2 and 5.
    desk.addRest(0, 4);
    due(41, "widthOf", desk.widthOf(1), 17);
    desk.addRest(0, 6);
    due(41, "widthOf", desk.widthOf(1), 3 + 7 + 4 + 6);
    desk.addRest(3, 32);
    desk.addRest(3, 4);
    due(41, "widthOf with the same ticks", desk.widthOf(1), 20);
    desk.setKey(1, -4);
    due(41, "widthOf with four flats", desk.widthOf(1), 21);
    desk.setKey(1, 5);
    due(41, "widthOf with five sharps", desk.widthOf(1), 22);
    desk.setKey(2, 1);
    due(41, "widthOf with a sharp", desk.widthOf(2), 12);
    desk.setMetre(23, 12, 2);
    due(41, "widthOf a long bar", desk.widthOf(23), 14);
    int[] none = {9, 401, 0, -1, MIN, MAX};
    for (int i = 0; i < none.length; i++) {
      int width = none[i];
      refused(42, "lines of " + width, ARGUMENT, desk, d -> d.lines(width));
      refused(43, "lineOf " + width, ARGUMENT, desk, d -> d.lineOf(width, 0));
      refused(44, "costOf " + width, ARGUMENT, desk, d -> d.costOf(width));
    }
    breaks();
    meanHeight();
  }

  private static void breaks() {
    ChoraleDesk desk = new ChoraleDesk();
    for (int bar = 0; bar < 5; bar++) {
      desk.addRest(0, 64);
    }
    // Five bars, each 11 wide.
    int[][] due = {
      {10, 5, 5}, {11, 5, 0}, {22, 3, 0}, {33, 2, 0}, {55, 1, 0}, {54, 1, 1}, {44, 2, 0}, {27, 2, 36},
      {28, 2, 25}, {400, 1, 0}, {16, 3, 72}, {17, 3, 50}
    };
    for (int i = 0; i < due.length; i++) {
      due(42, "lines of " + due[i][0], desk.lines(due[i][0]), due[i][1]);
      due(44, "costOf " + due[i][0], desk.costOf(due[i][0]), due[i][2]);
    }
    int[] of22 = {0, 0, 1, 1, 2, -1};
    int[] of33 = {0, 0, 0, 1, 1, -1};
    int[] of44 = {0, 0, 0, 0, 1, -1};
    for (int bar = 0; bar < 6; bar++) {
      due(43, "lineOf in 22", desk.lineOf(22, bar), of22[bar]);
      due(43, "lineOf in 33", desk.lineOf(33, bar), of33[bar]);
      due(43, "lineOf in 44", desk.lineOf(44, bar), of44[bar]);
    }
    due(43, "lineOf of the last bar there is", desk.lineOf(400, 23), -1);
  }

  private static void meanHeight() {
    ChoraleDesk desk = small();
    due(45, "meanHeight", desk.meanHeight() == 211.0 / 4.0 ? 1 : 0, 1);
    desk.addNote(2, 30, 0, 4);
    desk.takeLast(0);
    desk.takeLast(3);
    due(45, "meanHeight, not cut", desk.meanHeight() == 166.0 / 3.0 ? 1 : 0, 1);
  }

  private static void digest() {
    long d = 2467;
    ChoraleDesk desk = new ChoraleDesk();
    for (int part = 0; part < 4; part++) {
      d = d * 31;
    }
    for (int bar = 0; bar < 24; bar++) {
      d = ((d * 31 + 64 * bar) * 31 + 64) * 31 + 11;
      for (int part = 0; part < 4; part++) {
        d = (((d * 31) * 31) * 31 + 64) * 31;
      }
    }
    for (int zero = 0; zero < 7; zero++) {
      d = d * 31;
    }
    due(46, "digest of a new object", desk.digest(), d);
    due(46, "digest again", desk.digest(), d);
    due(46, "digest of another new object", new ChoraleDesk().digest(), d);
    desk.addNote(0, 35, 0, 4);
    due(46, "digest after a note", desk.digest() == d ? 1 : 0, 0);
    desk.takeLast(0);
    due(46, "digest without it", desk.digest(), d);
  }

  public static void main(String[] args) {
    newObject();
    addNote();
    addRest();
    takeLast();
    setPitch();
    setMetre();
    setKey();
    setRange();
    setShift();
    eventsAndPitches();
    keys();
    barsInTime();
    signs();
    accidentals();
    followsTheWriting();
    beams();
    missing();
    momentsAndSounds();
    chords();
    faults();
    lines();
    digest();
    System.out.println(wrong == 0 ? "all promises hold" : wrong + " answers are not as due");
    if (wrong != 0) {
      System.exit(1);
    }
  }
}
