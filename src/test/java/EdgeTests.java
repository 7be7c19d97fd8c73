import java.io.IOException;

/** For each sentence of each promise of the document a test of its own, at the bounds that it names. */
public final class EdgeTests {
  private static final int INDEX = Sentences.INDEX;
  private static final int ARGUMENT = Sentences.ARGUMENT;
  private static final int STATE = Sentences.STATE;
  private static final int MIN = Sentences.MIN;
  private static final int MAX = Sentences.MAX;
  private static final int[] NO_PLACE = {0, 63, -1, 64, 257, 65537, MIN, MAX};
  private static final int[] NO_ALTER = {-3, 3, -4, 4, 254, 65536, MIN, MAX};
  private static final int[] NO_VALUE = {
    0, 1, 2, 3, 5, 7, 9, 10, 11, 13, 17, 25, 33, 49, 65, 80, 95, 97, 128, -4, MIN, MAX
  };
  private static final int[] NO_WIDTH = {9, 401, 8, 402, 0, -10, -400, 522, 65546, MIN, MAX};

  private interface PartCall {
    long on(ChoraleDesk desk, int part);
  }

  private interface EventCall {
    long on(ChoraleDesk desk, int part, int event);
  }

  private interface BarCall {
    long on(ChoraleDesk desk, int part, int bar);
  }

  private interface SignCall {
    long on(ChoraleDesk desk, int part, int bar, int sign);
  }

  private static void noSuchPart(PartCall call) {
    Sentences.refusedEach("a call for no part", INDEX, Sentences.rich(), Sentences.NO_PART, (d, n) -> call.on(d, n));
    Sentences.refusedEach("a call for no part", INDEX, new ChoraleDesk(), Sentences.NO_PART, (d, n) -> call.on(d, n));
  }

  /** Events ahead of the first and behind the last one of each part, of an empty part, and of an event taken away. */
  private static void noSuchEvent(EventCall call) {
    noSuchPart((d, n) -> call.on(d, n, 0));
    ChoraleDesk desk = Sentences.deskWith(0, 16, -16, 16, 16);
    Sentences.add(desk, 2, 30, 16);
    desk.takeLast(0);
    for (int p = 0; p < 4; p++) {
      int part = p;
      int[] none = Sentences.noneOf(desk.events(part));
      Sentences.refusedEach("a call for no event", INDEX, desk, none, (d, n) -> call.on(d, part, n));
    }
  }

  private static void noSuchBar(BarCall call) {
    noSuchPart((d, n) -> call.on(d, n, 0));
    for (int p = 0; p < 4; p++) {
      int part = p;
      ChoraleDesk desk = Sentences.rich();
      Sentences.refusedEach("a call for no bar", INDEX, desk, Sentences.NO_BAR, (d, n) -> call.on(d, part, n));
      Sentences.accepted("a call for bar 0", desk, d -> call.on(d, part, 0));
      Sentences.accepted("a call for bar 23", desk, d -> call.on(d, part, 23));
    }
  }

  /** Signs ahead of the first and behind the last one of a bar, of an empty bar, and of an empty part. */
  private static void noSuchSign(SignCall call) {
    noSuchPart((d, n) -> call.on(d, n, 0, 0));
    ChoraleDesk rich = Sentences.rich();
    Sentences.refusedEach("a call for no bar", INDEX, rich, Sentences.NO_BAR, (d, n) -> call.on(d, 1, n, 0));
    ChoraleDesk desk = Sentences.deskWith(1, 24, 16, 96);
    int[] signs = {3, 1, 1, 0};
    for (int b = 0; b < signs.length; b++) {
      int bar = b;
      Sentences.due("signs", desk.signs(1, bar), signs[bar]);
      int[] none = Sentences.noneOf(desk.signs(1, bar));
      Sentences.refusedEach("a call for no sign", INDEX, desk, none, (d, n) -> call.on(d, 1, bar, n));
    }
    Sentences.refusedEach("a call for no sign", INDEX, desk, Sentences.noneOf(0), (d, n) -> call.on(d, 0, 0, n));
    Sentences.refusedEach("a call for no sign", INDEX, desk, Sentences.noneOf(0), (d, n) -> call.on(d, 1, 23, n));
  }

  private static void noSuchMoment(Sentences.NumberCall call) {
    Sentences.refusedEach("a call for no moment", INDEX, new ChoraleDesk(), Sentences.noneOf(0), call);
    ChoraleDesk desk = Sentences.deskWith(0, 16, -16, 16, 16);
    Sentences.add(desk, 2, 30, 24);
    desk.takeLast(0);
    Sentences.refusedEach("a call for no moment", INDEX, desk, Sentences.noneOf(3), call);
    Sentences.accepted("a call for the last moment", desk, d -> call.on(d, 2));
  }

  private static void noSuchFault(Sentences.NumberCall call) {
    Sentences.refusedEach("a call for no fault", INDEX, new ChoraleDesk(), Sentences.noneOf(0), call);
    ChoraleDesk desk = Sentences.deskWith(3, 16, 16, 16);
    desk.setRange(3, 1, 34);
    Sentences.refusedEach("a call for no fault", INDEX, desk, Sentences.noneOf(3), call);
    Sentences.accepted("a call for the last fault", desk, d -> call.on(d, 2));
    desk.setRange(3, 1, 35);
    Sentences.refusedEach("a call for a fault that is mended", INDEX, desk, Sentences.noneOf(0), call);
  }

  // ---- a new object, and writing

  private static void newObject() {
    ChoraleDesk desk = new ChoraleDesk();
    for (int bar = 0; bar < 24; bar++) {
      Sentences.due("begin of bar " + bar, desk.beginOfBar(bar), 64 * bar);
      Sentences.due("length of bar " + bar, desk.lengthOfBar(bar), 64);
      Sentences.due("width of bar " + bar, desk.widthOf(bar), 11);
      for (int part = 0; part < 4; part++) {
        Sentences.due("signs", desk.signs(part, bar), 0);
        Sentences.due("missing", desk.missing(part, bar), 64);
        Sentences.due("writtenKey", desk.writtenKey(part, bar), 0);
      }
    }
    Sentences.due("moments", desk.moments(), 0);
    Sentences.due("faults", desk.faults(), 0);
    Sentences.due("bars", desk.bars(), 0);
    ChoraleDesk other = Sentences.rich();
    Sentences.due("another object's digest", new ChoraleDesk().digest(), desk.digest());
    other.takeLast(0);
    Sentences.due("events of this one", desk.events(0), 0);
  }

  private static void addNoteNumbers() {
    ChoraleDesk desk = new ChoraleDesk();
    for (int event = 0; event < 40; event++) {
      for (int part = 0; part < 4; part++) {
        Sentences.due("addNote", desk.addNote(part, 30, 0, 4), event);
      }
    }
    Sentences.due("takeLast", desk.takeLast(2), 4);
    Sentences.due("addNote behind it", desk.addNote(2, 30, 0, 4), 39);
  }

  private static void addNoteBehind() {
    ChoraleDesk desk = Sentences.deskWith(1, 24, -6);
    Sentences.due("addNote", desk.addNote(1, 62, 2, 96), 2);
    Sentences.due("begin", desk.beginOf(1, 2), 30);
    Sentences.due("height", desk.heightOf(1, 2), 109);
    Sentences.due("addNote", desk.addNote(1, 1, -2, 4), 3);
    Sentences.due("begin", desk.beginOf(1, 3), 126);
    Sentences.due("height", desk.heightOf(1, 3), 0);
    Sentences.due("height of the one ahead", desk.heightOf(1, 2), 109);
  }

  private static void addNoteOfNoPitchOrValue() {
    ChoraleDesk desk = Sentences.rich();
    for (int p = 0; p < 4; p++) {
      int part = p;
      Sentences.refusedEach("no place", ARGUMENT, desk, NO_PLACE, (d, n) -> d.addNote(part, n, 0, 16));
      Sentences.refusedEach("no alter", ARGUMENT, desk, NO_ALTER, (d, n) -> d.addNote(part, 30, n, 16));
      Sentences.refusedEach("no value", ARGUMENT, desk, NO_VALUE, (d, n) -> d.addNote(part, 30, 0, n));
      Sentences.accepted("the least", desk, d -> d.addNote(part, 1, -2, 4));
      Sentences.accepted("the greatest", desk, d -> d.addNote(part, 62, 2, 96));
    }
  }

  private static void addOverTheEnd(Sentences.NumberCall add) {
    for (int i = 0; i < Sentences.VALUES.length; i++) {
      int value = Sentences.VALUES[i];
      ChoraleDesk desk = new ChoraleDesk();
      desk.setMetre(0, 12, 8);
      Sentences.restUpTo(desk, 3, 24 * 96 - value);
      int event = desk.events(3);
      Sentences.due("an event of " + value + " up to the end", add.on(desk, value), event);
      Sentences.due("its begin", desk.beginOf(3, event), 24 * 96 - value);
      desk.setMetre(23, 11, 8);
      desk.takeLast(3);
      // The end is 8 ticks ahead of where it would end.
      Sentences.refused("an event of " + value + " over the end", STATE, desk, d -> add.on(d, value));
      desk.setMetre(23, 1, 8);
      Sentences.refused("an event of " + value + " far over the end", STATE, desk, d -> add.on(d, value));
      desk.setMetre(0, 12, 8);
      Sentences.due("an event of " + value + " again", add.on(desk, value), event);
    }
  }

  private static void addRestNumbers() {
    ChoraleDesk desk = new ChoraleDesk();
    for (int i = 0; i < Sentences.VALUES.length; i++) {
      for (int part = 0; part < 4; part++) {
        Sentences.due("addRest", desk.addRest(part, Sentences.VALUES[i]), i);
        Sentences.due("height", desk.heightOf(part, i), -1);
      }
    }
    Sentences.due("begin of the last one", desk.beginOf(3, 9), 304);
  }

  private static void addRestBehind() {
    ChoraleDesk desk = Sentences.deskWith(1, 24);
    Sentences.due("addRest", desk.addRest(1, 6), 1);
    Sentences.due("begin", desk.beginOf(1, 1), 24);
    Sentences.due("sounds at its begin", desk.sounds(1, 1), -1);
    Sentences.due("events of another part", desk.events(0), 0);
  }

  private static void takeLastLengths() {
    ChoraleDesk desk = new ChoraleDesk();
    for (int i = 0; i < Sentences.VALUES.length; i++) {
      desk.addNote(0, 30, 0, Sentences.VALUES[i]);
      desk.addRest(3, Sentences.VALUES[i]);
    }
    for (int i = Sentences.VALUES.length - 1; i >= 0; i--) {
      Sentences.due("takeLast", desk.takeLast(0), Sentences.VALUES[i]);
      Sentences.due("takeLast of a rest", desk.takeLast(3), Sentences.VALUES[i]);
    }
    Sentences.due("digest of nothing", desk.digest(), new ChoraleDesk().digest());
  }

  private static void takeLastTakes() {
    ChoraleDesk desk = Sentences.deskWith(0, 96, 96, 8);
    desk.setMetre(0, 1, 8);
    Sentences.due("bar of what lies behind", desk.barOf(0, 2), -1);
    Sentences.due("takeLast of what lies behind", desk.takeLast(0), 8);
    Sentences.due("events", desk.events(0), 2);
    Sentences.due("takeLast", desk.takeLast(0), 96);
    Sentences.due("addNote", desk.addNote(0, 30, 0, 4), 1);
    Sentences.due("begin", desk.beginOf(0, 1), 96);
  }

  private static void takeLastOfNone() {
    ChoraleDesk desk = Sentences.deskWith(0, 16);
    for (int p = 1; p < 4; p++) {
      int part = p;
      Sentences.refused("takeLast of an empty part", STATE, desk, d -> d.takeLast(part));
    }
    desk.takeLast(0);
    Sentences.refused("takeLast behind the last one", STATE, desk, d -> d.takeLast(0));
    Sentences.refused("takeLast once more", STATE, desk, d -> d.takeLast(0));
  }

  private static void setPitchBefore() {
    ChoraleDesk desk = Sentences.deskWith(2, 16, -16, 96);
    Sentences.due("setPitch", desk.setPitch(2, 0, 1, -2), 60);
    Sentences.due("setPitch from the least", desk.setPitch(2, 0, 62, 2), 0);
    Sentences.due("setPitch from the greatest", desk.setPitch(2, 0, 62, 2), 109);
    Sentences.due("setPitch to the same", desk.setPitch(2, 0, 35, 0), 109);
    Sentences.due("setPitch of the last one", desk.setPitch(2, 2, 36, 0), 60);
  }

  private static void setPitchGives() {
    ChoraleDesk desk = Sentences.deskWith(2, 16, 96);
    desk.setPitch(2, 1, 62, 2);
    Sentences.due("height", desk.heightOf(2, 1), 109);
    Sentences.due("height of the one ahead", desk.heightOf(2, 0), 60);
    Sentences.due("begin", desk.beginOf(2, 1), 16);
    Sentences.due("length", desk.takeLast(2), 96);
  }

  private static void setPitchToNone() {
    ChoraleDesk desk = Sentences.rich();
    Sentences.refusedEach("no place", ARGUMENT, desk, NO_PLACE, (d, n) -> d.setPitch(3, 0, n, 0));
    Sentences.refusedEach("no alter", ARGUMENT, desk, NO_ALTER, (d, n) -> d.setPitch(3, 0, 30, n));
  }

  private static void setPitchOfRest() {
    ChoraleDesk desk = Sentences.deskWith(2, -16, 16, -96);
    Sentences.refused("setPitch of the first rest", STATE, desk, d -> d.setPitch(2, 0, 1, -2));
    Sentences.refused("setPitch of the last rest", STATE, desk, d -> d.setPitch(2, 2, 62, 2));
  }

  private static void setMetreLengths() {
    ChoraleDesk desk = new ChoraleDesk();
    for (int beats = 1; beats <= 12; beats++) {
      Sentences.due("length of " + beats + " and 2", desk.setMetre(0, beats, 2), 32 * beats);
      Sentences.due("length of " + beats + " and 4", desk.setMetre(12, beats, 4), 16 * beats);
      Sentences.due("length of " + beats + " and 8", desk.setMetre(23, beats, 8), 8 * beats);
    }
  }

  private static void setMetreBehind() {
    ChoraleDesk desk = new ChoraleDesk();
    desk.setMetre(23, 12, 2);
    Sentences.due("length of bar 22", desk.lengthOfBar(22), 64);
    Sentences.due("length of bar 23", desk.lengthOfBar(23), 384);
    desk.setMetre(1, 1, 8);
    for (int bar = 0; bar < 24; bar++) {
      Sentences.due("length of bar " + bar, desk.lengthOfBar(bar), bar == 0 ? 64 : 8);
      Sentences.due("begin of bar " + bar, desk.beginOfBar(bar), bar == 0 ? 0 : 64 + 8 * (bar - 1));
    }
    desk.setMetre(0, 5, 4);
    Sentences.due("begin of bar 23", desk.beginOfBar(23), 23 * 80);
  }

  private static void setMetreToNone() {
    ChoraleDesk desk = Sentences.rich();
    int[] noBeats = {0, 13, -1, 14, 257, 1 << 26, MIN, MAX};
    int[] noUnits = {0, 1, 3, 5, 6, 7, 9, 16, 258, -2, -4, -8, MIN, MAX};
    for (int b = 0; b < 24; b += 23) {
      int bar = b;
      Sentences.refusedEach("no beats", ARGUMENT, desk, noBeats, (d, n) -> d.setMetre(bar, n, 8));
      Sentences.refusedEach("no unit", ARGUMENT, desk, noUnits, (d, n) -> d.setMetre(bar, 12, n));
    }
  }

  private static void setKeyUntilNow() {
    ChoraleDesk desk = new ChoraleDesk();
    int before = 0;
    for (int key = -7; key <= 7; key++) {
      Sentences.due("setKey of bar 23", desk.setKey(23, key), before);
      before = key;
    }
    Sentences.due("setKey of bar 22", desk.setKey(22, 1), 0);
    Sentences.due("setKey of bar 23", desk.setKey(23, -7), 1);
    Sentences.due("setKey to the same", desk.setKey(23, -7), -7);
  }

  private static void setKeyBehind() {
    ChoraleDesk desk = new ChoraleDesk();
    desk.setKey(23, 7);
    Sentences.due("key of bar 22", desk.writtenKey(0, 22), 0);
    desk.setKey(1, -7);
    for (int bar = 0; bar < 24; bar++) {
      Sentences.due("key of bar " + bar, desk.writtenKey(0, bar), bar == 0 ? 0 : -7);
    }
    desk.setKey(0, 3);
    Sentences.due("key of bar 23", desk.writtenKey(0, 23), 3);
  }

  private static void setKeyToNone() {
    int[] none = {-8, 8, -9, 9, 256, 65536, MIN, MAX};
    ChoraleDesk desk = Sentences.rich();
    Sentences.refusedEach("no key in bar 0", ARGUMENT, desk, none, (d, n) -> d.setKey(0, n));
    Sentences.refusedEach("no key in bar 23", ARGUMENT, desk, none, (d, n) -> d.setKey(23, n));
  }

  private static void setRangeCounts() {
    ChoraleDesk desk = Sentences.deskWith(0, 16, -16);
    Sentences.add(desk, 0, 30, 16);
    Sentences.add(desk, 0, 36, 16, 16, -16);
    Sentences.add(desk, 1, 1, 16);
    int[][] due = {
      {30, 36, 0}, {31, 36, 1}, {30, 35, 2}, {31, 35, 3}, {31, 34, 4}, {36, 36, 2}, {30, 30, 3}, {1, 1, 4}, {62, 62, 4},
      {1, 62, 0}
    };
    for (int i = 0; i < due.length; i++) {
      Sentences.due("setRange " + due[i][0] + " to " + due[i][1], desk.setRange(0, due[i][0], due[i][1]), due[i][2]);
    }
    Sentences.due("setRange of an empty part", desk.setRange(2, 62, 62), 0);
    Sentences.due("setRange of rests", new ChoraleDesk().setRange(2, 62, 62), 0);
    ChoraleDesk stranded = Sentences.deskWith(0, 96, 96, 96);
    stranded.setMetre(0, 1, 8);
    Sentences.due("setRange of what lies behind", stranded.setRange(0, 1, 34), 3);
  }

  private static void setRangeToNone() {
    ChoraleDesk desk = Sentences.rich();
    Sentences.refusedEach("no lowest", ARGUMENT, desk, NO_PLACE, (d, n) -> d.setRange(1, n, 62));
    Sentences.refusedEach("no highest", ARGUMENT, desk, NO_PLACE, (d, n) -> d.setRange(1, 1, n));
    int[] less = {29, 28, 1, 0, -30, MIN};
    Sentences.refusedEach("a highest less than 30", ARGUMENT, desk, less, (d, n) -> d.setRange(1, 30, n));
    Sentences.refused("63 to 63", ARGUMENT, desk, d -> d.setRange(1, 63, 63));
    Sentences.refused("0 to 0", ARGUMENT, desk, d -> d.setRange(1, 0, 0));
    Sentences.refused("62 to 61", ARGUMENT, desk, d -> d.setRange(1, 62, 61));
  }

  private static void setShiftCounts() {
    ChoraleDesk desk = new ChoraleDesk();
    Sentences.due("setShift of an empty part", desk.setShift(1, 6, 2), 0);
    Sentences.add(desk, 1, 62, 16);
    Sentences.add(desk, 1, 55, 16, -16);
    Sentences.add(desk, 1, 8, 16);
    Sentences.add(desk, 1, 1, 16, 16);
    Sentences.due("setShift by none", desk.setShift(1, 0, 0), 0);
    Sentences.due("setShift by an octave", desk.setShift(1, 0, 1), 1);
    Sentences.due("setShift by two octaves", desk.setShift(1, 0, 2), 2);
    Sentences.due("setShift down by an octave", desk.setShift(1, 0, -1), 2);
    Sentences.due("setShift down by two octaves", desk.setShift(1, 0, -2), 3);
    Sentences.due("setShift by six fifths", desk.setShift(1, 6, 0), 2);
    Sentences.due("setShift down by six fifths", desk.setShift(1, -6, 0), 3);
    Sentences.due("setShift of other parts", desk.setShift(0, -6, -2), 0);
    desk.setPitch(1, 1, 55, 2);
    // B with two sharps a fifth up has no alter; 62 has no place.
    Sentences.due("setShift by a fifth", desk.setShift(1, 1, 0), 2);
  }

  private static void setShiftToNone() {
    int[] noFifths = {-7, 7, -8, 8, 256, MIN, MAX};
    int[] noOctaves = {-3, 3, -4, 4, 256, MIN, MAX};
    ChoraleDesk desk = Sentences.rich();
    for (int p = 0; p < 4; p++) {
      int part = p;
      Sentences.refusedEach("no fifths", ARGUMENT, desk, noFifths, (d, n) -> d.setShift(part, n, 2));
      Sentences.refusedEach("no octaves", ARGUMENT, desk, noOctaves, (d, n) -> d.setShift(part, 6, n));
    }
  }

  // ---- events and pitches

  private static void eventCounts() {
    ChoraleDesk desk = new ChoraleDesk();
    for (int event = 0; event < 20; event++) {
      Sentences.due("events", desk.events(3), event);
      Sentences.add(desk, 3, 30, event % 2 == 0 ? 16 : -16);
    }
    Sentences.refused("addNote of no value", ARGUMENT, desk, d -> d.addNote(3, 30, 0, 5));
    Sentences.due("events", desk.events(3), 20);
    desk.takeLast(3);
    Sentences.due("events", desk.events(3), 19);
    Sentences.due("events of another part", desk.events(2), 0);
  }

  private static void beginsOfEvents() {
    ChoraleDesk desk = Sentences.deskWith(3, 96, -4, 6);
    Sentences.due("begin of the first one", desk.beginOf(3, 0), 0);
    Sentences.due("begin of a rest", desk.beginOf(3, 1), 96);
    Sentences.due("begin of the last one", desk.beginOf(3, 2), 100);
    desk.setMetre(0, 1, 8);
    Sentences.due("begin after another metre", desk.beginOf(3, 2), 100);
  }

  private static void heightsOfEvents() {
    ChoraleDesk desk = new ChoraleDesk();
    desk.addNote(0, 1, -2, 16);
    desk.addRest(0, 16);
    desk.addNote(0, 62, 2, 16);
    Sentences.due("the least height", desk.heightOf(0, 0), 0);
    Sentences.due("height of a rest", desk.heightOf(0, 1), -1);
    Sentences.due("the greatest height", desk.heightOf(0, 2), 109);
    desk.setShift(0, 6, -2);
    Sentences.due("height in a part with a shift", desk.heightOf(0, 2), 109);
  }

  private static void barsOfEvents() {
    ChoraleDesk desk = new ChoraleDesk();
    desk.setMetre(0, 1, 8);
    Sentences.add(desk, 0, 30, 6, -6, 4, 16, 96, 48, 8, 4, 4);
    int[] due = {0, 0, 1, 2, 4, 16, 22, 23, 23};
    for (int event = 0; event < due.length; event++) {
      Sentences.due("bar of event " + event, desk.barOf(0, event), due[event]);
    }
    ChoraleDesk full = Sentences.deskWith(1, 96, 64, 24, 4, 4, 4, 4);
    full.setMetre(0, 1, 8);
    Sentences.due("bar of tick 184", full.barOf(1, 3), 23);
    Sentences.due("bar of tick 188", full.barOf(1, 4), 23);
    Sentences.due("bar of tick 192", full.barOf(1, 5), -1);
    Sentences.due("bar of tick 196", full.barOf(1, 6), -1);
    full.setMetre(23, 2, 8);
    Sentences.due("bar of tick 196 in a longer bar", full.barOf(1, 6), 23);
    full.setMetre(0, 4, 4);
    Sentences.due("bar of tick 188 in longer bars", full.barOf(1, 4), 2);
    Sentences.due("bar of tick 192 in longer bars", full.barOf(1, 5), 3);
  }

  private static ChoraleDesk shifted(int place, int alter, int fifths, int octaves) {
    ChoraleDesk desk = new ChoraleDesk();
    desk.addRest(1, 16);
    desk.addNote(1, place, alter, 16);
    desk.setShift(1, fifths, octaves);
    return desk;
  }

  private static void writtenPlaces() {
    Sentences.due("of a rest", shifted(35, 0, 1, 0).writtenPlace(1, 0), -1);
    Sentences.due("C, a fifth up", shifted(35, 0, 1, 0).writtenPlace(1, 1), 39);
    Sentences.due("place 1", shifted(5, 0, -1, 0).writtenPlace(1, 1), 1);
    Sentences.due("place 0", shifted(4, 0, -1, 0).writtenPlace(1, 1), -1);
    Sentences.due("place 62", shifted(58, 0, 1, 0).writtenPlace(1, 1), 62);
    Sentences.due("place 63", shifted(59, 0, 1, 0).writtenPlace(1, 1), -1);
    Sentences.due("alter 2", shifted(34, 1, 1, 0).writtenPlace(1, 1), 38);
    Sentences.due("alter 3", shifted(34, 2, 1, 0).writtenPlace(1, 1), -1);
    Sentences.due("alter -2", shifted(38, -1, -1, 0).writtenPlace(1, 1), 34);
    Sentences.due("alter -3", shifted(38, -2, -1, 0).writtenPlace(1, 1), -1);
    ChoraleDesk desk = new ChoraleDesk();
    desk.setShift(1, 1, 0);
    desk.addNote(1, 35, 0, 16);
    Sentences.due("of a note behind the shift", desk.writtenPlace(1, 0), 39);
    desk.setPitch(1, 0, 36, 0);
    Sentences.due("of another pitch", desk.writtenPlace(1, 0), 40);
  }

  private static void writtenAlters() {
    Sentences.due("of a rest", shifted(35, 0, 1, 0).writtenAlter(1, 0), -3);
    Sentences.due("C, a fifth up", shifted(35, 0, 1, 0).writtenAlter(1, 1), 0);
    Sentences.due("place 0", shifted(4, 0, -1, 0).writtenAlter(1, 1), -3);
    Sentences.due("place 63", shifted(59, 0, 1, 0).writtenAlter(1, 1), -3);
    Sentences.due("alter 2", shifted(34, 1, 1, 0).writtenAlter(1, 1), 2);
    Sentences.due("alter 3", shifted(34, 2, 1, 0).writtenAlter(1, 1), -3);
    Sentences.due("alter -2", shifted(38, -1, -1, 0).writtenAlter(1, 1), -2);
    Sentences.due("alter -3", shifted(38, -2, -1, 0).writtenAlter(1, 1), -3);
    Sentences.due("all sharps", shifted(35, 0, 6, 0).writtenAlter(1, 1), 1);
    Sentences.due("all flats", shifted(35, 0, -6, 0).writtenAlter(1, 1), -1);
  }

  private static void altersByKeys() {
    ChoraleDesk desk = new ChoraleDesk();
    Sentences.due("C in no key", desk.alterIn(0, 0), 0);
    Sentences.due("F in one sharp", desk.alterIn(1, 3), 1);
    Sentences.due("C in one sharp", desk.alterIn(1, 0), 0);
    Sentences.due("E in six sharps", desk.alterIn(6, 2), 1);
    Sentences.due("B in six sharps", desk.alterIn(6, 6), 0);
    Sentences.due("B in seven sharps", desk.alterIn(7, 6), 1);
    Sentences.due("B in one flat", desk.alterIn(-1, 6), -1);
    Sentences.due("E in one flat", desk.alterIn(-1, 2), 0);
    Sentences.due("C in six flats", desk.alterIn(-6, 0), -1);
    Sentences.due("F in six flats", desk.alterIn(-6, 3), 0);
    Sentences.due("F in seven flats", desk.alterIn(-7, 3), -1);
  }

  private static void altersByNoKey() {
    ChoraleDesk desk = Sentences.rich();
    int[] noKeys = {-8, 8, -9, 9, 256, MIN, MAX};
    int[] noSteps = {-1, 7, -7, 8, 256, MIN, MAX};
    Sentences.refusedEach("no key", ARGUMENT, desk, noKeys, (d, n) -> d.alterIn(n, 3));
    Sentences.refusedEach("no step", ARGUMENT, desk, noSteps, (d, n) -> d.alterIn(7, n));
    Sentences.refusedEach("no key, no step", ARGUMENT, desk, noSteps, (d, n) -> d.alterIn(-8, n));
  }

  private static void writtenKeys() {
    int[][] due = {{7, 0, 7}, {6, 1, 7}, {7, 1, -4}, {7, 6, 1}, {-7, 0, -7}, {-6, -1, -7}, {-7, -1, 4}, {-7, -6, -1}};
    for (int i = 0; i < due.length; i++) {
      ChoraleDesk desk = new ChoraleDesk();
      desk.setKey(0, due[i][0]);
      desk.setShift(2, due[i][1], 0);
      Sentences.due("writtenKey of bar 0", desk.writtenKey(2, 0), due[i][2]);
      Sentences.due("writtenKey of bar 23", desk.writtenKey(2, 23), due[i][2]);
      Sentences.due("writtenKey of another part", desk.writtenKey(3, 0), due[i][0]);
    }
  }

  // ---- bars and signs

  private static void beginsOfBars() {
    ChoraleDesk desk = new ChoraleDesk();
    desk.setMetre(0, 12, 2);
    Sentences.due("bar 0", desk.beginOfBar(0), 0);
    Sentences.due("the last of the longest bars", desk.beginOfBar(23), 23 * 384);
    desk.setMetre(0, 1, 8);
    Sentences.due("the last of the shortest bars", desk.beginOfBar(23), 23 * 8);
    desk.setMetre(23, 12, 2);
    Sentences.due("the last bar, itself longer", desk.beginOfBar(23), 23 * 8);
    desk.setMetre(22, 12, 2);
    Sentences.due("the last bar behind a longer one", desk.beginOfBar(23), 22 * 8 + 384);
  }

  private static void lengthsOfBars() {
    ChoraleDesk desk = new ChoraleDesk();
    Sentences.due("at first", desk.lengthOfBar(0), 64);
    desk.setMetre(0, 12, 2);
    Sentences.due("the longest", desk.lengthOfBar(0), 384);
    desk.setMetre(23, 1, 8);
    Sentences.due("the shortest", desk.lengthOfBar(23), 8);
    Sentences.due("ahead of it", desk.lengthOfBar(22), 384);
  }

  private static void signCounts() {
    ChoraleDesk desk = Sentences.deskWith(0, 24, 16, 24, 96, -96);
    int[] due = {3, 1, 2, 1, 0};
    for (int bar = 0; bar < due.length; bar++) {
      Sentences.due("signs of bar " + bar, desk.signs(0, bar), due[bar]);
      Sentences.due("signs of an empty part", desk.signs(1, bar), 0);
    }
    desk.setMetre(0, 1, 8);
    Sentences.due("signs of a bar that an event fills", desk.signs(0, 0), 1);
    Sentences.due("signs of the last bar", desk.signs(0, 23), 1);
    ChoraleDesk most = new ChoraleDesk();
    most.setMetre(0, 12, 2);
    for (int i = 0; i < 96; i++) {
      most.addNote(0, 30, 0, 4);
    }
    Sentences.due("signs of the longest bar", most.signs(0, 0), 96);
    Sentences.due("signs behind it", most.signs(0, 1), 0);
  }

  private static void eventsOfSigns() {
    ChoraleDesk desk = Sentences.deskWith(0, -24, 96, -4, 4);
    Sentences.due("bar 0", Sentences.eventsOf(desk, 0, 0), "0 1 1");
    Sentences.due("bar 1", Sentences.eventsOf(desk, 0, 1), "1 1 2 3");
    desk.setMetre(0, 1, 8);
    Sentences.due("bar 3", Sentences.eventsOf(desk, 0, 3), "1");
    Sentences.due("bar 15", Sentences.eventsOf(desk, 0, 15), "2 3");
    Sentences.due("bar 16", Sentences.eventsOf(desk, 0, 16), "");
  }

  private static void lengthsOfSigns() {
    ChoraleDesk desk = Sentences.deskWith(0, -24, 96, -4, 4);
    Sentences.due("bar 0", Sentences.signsOf(desk, 0, 0), "24 32~ 8~");
    Sentences.due("bar 1", Sentences.signsOf(desk, 0, 1), "48~ 8 4 4");
    ChoraleDesk longest = new ChoraleDesk();
    longest.setMetre(0, 3, 2);
    Sentences.add(longest, 0, 30, 96, 6, 96);
    Sentences.due("the greatest sign", Sentences.signsOf(longest, 0, 0), "96");
    Sentences.due("signs of 90", Sentences.signsOf(longest, 0, 1), "6 64~ 24~ 2~");
    Sentences.due("a sign of 6", Sentences.signsOf(longest, 0, 2), "6");
    Sentences.add(longest, 0, 30, 64, 24, 4);
    Sentences.due("the least sign", Sentences.signsOf(longest, 0, 2), "6 64 24 2~");
    Sentences.due("the least sign in the next bar", Sentences.signsOf(longest, 0, 3), "2");
  }

  private static void tiesOfSigns() {
    ChoraleDesk desk = new ChoraleDesk();
    Sentences.add(desk, 0, 30, 64, 96, 96, -64);
    String[] due = {"64", "64~", "32 32~", "64", "64"};
    for (int bar = 0; bar < due.length; bar++) {
      Sentences.due("bar " + bar, Sentences.signsOf(desk, 0, bar), due[bar]);
    }
    ChoraleDesk last = Sentences.deskWith(0, 96, 96, 96);
    last.setMetre(0, 1, 8);
    Sentences.due("the last sign of a note", last.isTied(0, 11, 0) ? 1 : 0, 0);
    Sentences.due("the first sign of the next one", last.isTied(0, 12, 0) ? 1 : 0, 1);
    Sentences.due("the end of the last bar, and of the note", last.isTied(0, 23, 0) ? 1 : 0, 0);
    last.setMetre(22, 3, 8);
    Sentences.due("bar 22", Sentences.signsOf(last, 0, 22), "16 8~");
    ChoraleDesk over = Sentences.deskWith(0, 96, 96, -12, 48);
    over.setMetre(0, 1, 8);
    over.setMetre(22, 3, 8);
    Sentences.due("the last bar, not the end of the note", Sentences.signsOf(over, 0, 23), "4 16~ 4");
  }

  private static void shownAlters() {
    ChoraleDesk desk = new ChoraleDesk();
    desk.setKey(0, -1);
    int[] alters = {-1, 0, 0, 1, 2, -2, -1, -1};
    for (int i = 0; i < alters.length; i++) {
      desk.addNote(0, 41, alters[i], 8);
    }
    desk.addNote(0, 41, -1, 8);
    desk.addNote(0, 41, 0, 8);
    desk.addRest(0, 8);
    Sentences.due("bar 0", Sentences.shownIn(desk, 0, 0), ". 0 . 1 2 -2 -1 .");
    Sentences.due("bar 1", Sentences.shownIn(desk, 0, 1), ". 0 .");
    ChoraleDesk octaves = new ChoraleDesk();
    Sentences.due("addNote", octaves.addNote(0, 34, -1, 16), 0);
    octaves.addNote(0, 41, -1, 16);
    octaves.addNote(0, 41, -1, 16);
    octaves.addNote(0, 34, -1, 16);
    Sentences.due("other octaves", Sentences.shownIn(octaves, 0, 0), "-1 -1 . .");
  }

  private static void shownWrittenAlters() {
    ChoraleDesk desk = new ChoraleDesk();
    desk.setKey(0, 7);
    desk.setShift(0, 1, 0);
    // Written in four flats: C sharp is written as G sharp, C as G, F sharp as C sharp, B with two sharps not at all.
    desk.addNote(0, 35, 1, 8);
    desk.addNote(0, 35, 0, 8);
    desk.addNote(0, 38, 1, 8);
    desk.addNote(0, 34, 2, 8);
    desk.addNote(0, 35, 0, 16);
    desk.addRest(0, 16);
    desk.addNote(0, 35, 0, 8);
    Sentences.due("as written", Sentences.shownWrittenIn(desk, 0, 0), "1 0 1 . . .");
    Sentences.due("as it sounds", Sentences.shownIn(desk, 0, 0), ". 0 . 2 . .");
    Sentences.due("as written in the next bar", Sentences.shownWrittenIn(desk, 0, 1), ".");
    Sentences.due("as written again", desk.shownWritten(0, 0, 0), 1);
    desk.setShift(0, 0, 2);
    Sentences.due("as written with another shift", desk.shownWritten(0, 0, 0), -3);
    Sentences.due("as written with octaves", Sentences.shownWrittenIn(desk, 0, 0), ". 0 . 2 . .");
    ChoraleDesk tied = new ChoraleDesk();
    tied.setShift(2, 1, 0);
    tied.addRest(2, 24);
    tied.addNote(2, 34, 0, 48);
    tied.addNote(2, 34, 0, 16);
    Sentences.due("signs", Sentences.signsOf(tied, 2, 0), "24 32~ 8~");
    Sentences.due("as written, in the key", Sentences.shownWrittenIn(tied, 2, 0), ". . .");
    tied.setKey(0, -1);
    Sentences.due("as written, not in the key", Sentences.shownWrittenIn(tied, 2, 0), ". 1 .");
    Sentences.due("behind a follower", Sentences.shownWrittenIn(tied, 2, 1), ". 1");
  }

  private static void beamCounts() {
    ChoraleDesk desk = new ChoraleDesk();
    Sentences.add(desk, 0, 30, 8, 4, -4, 4, 12, 6, 6, 4, 12, 4);
    Sentences.due("beams of bar 0", Sentences.beamsOf(desk, 0, 0), "0 0 . 1 1 2 2 2 3 3");
    Sentences.due("beams of a bar without signs", desk.beams(0, 1), 0);
    Sentences.due("beams of an empty part", desk.beams(1, 0), 0);
    Sentences.due("beams of rests", Sentences.deskWith(0, -8, -8).beams(0, 0), 0);
    Sentences.due("beams of one short note", Sentences.deskWith(0, 8).beams(0, 0), 0);
    Sentences.due("beams of two", Sentences.deskWith(0, 8, 8).beams(0, 0), 1);
    ChoraleDesk most = new ChoraleDesk();
    most.setMetre(0, 12, 4);
    for (int i = 0; i < 48; i++) {
      most.addNote(0, 30, 0, 4);
    }
    Sentences.due("the most beams", most.beams(0, 0), 12);
  }

  private static void beamNumbers() {
    ChoraleDesk desk = new ChoraleDesk();
    Sentences.add(desk, 0, 30, -16, 8, 8, 8, -8, 8, 8);
    Sentences.due("beams", Sentences.beamsOf(desk, 0, 0), ". 0 0 . . 1 1");
    desk.setMetre(0, 6, 8);
    Sentences.due("beams in 6 and 8", Sentences.beamsOf(desk, 0, 0), ". . 0 0 .");
    Sentences.due("beams of the next bar", Sentences.beamsOf(desk, 0, 1), "0 0");
    desk.setMetre(0, 2, 2);
    Sentences.due("beams in 2 and 2", Sentences.beamsOf(desk, 0, 0), ". 0 0 . . 1 1");
    desk.setPitch(0, 1, 31, 2);
    desk.takeLast(0);
    Sentences.due("beams without the last note", Sentences.beamsOf(desk, 0, 0), ". 0 0 . . .");
  }

  private static void missingTicks() {
    ChoraleDesk desk = new ChoraleDesk();
    Sentences.due("an empty bar", desk.missing(0, 0), 64);
    int[] values = {4, 6, -6, 32};
    int[] due = {60, 54, 48, 16};
    for (int i = 0; i < values.length; i++) {
      Sentences.add(desk, 0, 30, values[i]);
      Sentences.due("missing", desk.missing(0, 0), due[i]);
    }
    Sentences.add(desk, 0, 30, 16);
    Sentences.due("a full bar", desk.missing(0, 0), 0);
    Sentences.due("the bar behind it", desk.missing(0, 1), 64);
    Sentences.add(desk, 0, 30, 96);
    Sentences.due("a bar that one event fills", desk.missing(0, 1), 0);
    Sentences.due("a half bar", desk.missing(0, 2), 32);
    Sentences.due("the last bar", desk.missing(0, 23), 64);
    Sentences.due("another part", desk.missing(3, 0), 64);
    desk.setMetre(0, 12, 2);
    Sentences.due("the longest bar", desk.missing(0, 0), 384 - 160);
    desk.setMetre(0, 1, 8);
    Sentences.due("short bars", desk.missing(0, 19) + desk.missing(0, 20), 8);
  }

  // ---- what sounds, and faults

  private static void momentCounts() {
    ChoraleDesk desk = new ChoraleDesk();
    Sentences.due("without events", desk.moments(), 0);
    Sentences.add(desk, 0, 30, 16, 16);
    Sentences.due("of two events", desk.moments(), 2);
    Sentences.add(desk, 3, 30, -16, -16, -16);
    Sentences.due("of another part too", desk.moments(), 3);
    Sentences.add(desk, 1, 30, 24, 24);
    Sentences.due("of a third part too", desk.moments(), 4);
    desk.setMetre(0, 1, 8);
    Sentences.due("after another metre", desk.moments(), 4);
    for (int i = 0; i < 3; i++) {
      desk.takeLast(3);
    }
    Sentences.due("without the rests", desk.moments(), 3);
    ChoraleDesk taken = Sentences.deskWith(0, 16, 16);
    Sentences.due("of two events", taken.moments(), 2);
    taken.takeLast(0);
    Sentences.due("without one of them", taken.moments(), 1);
    taken.takeLast(0);
    Sentences.due("without both", taken.moments(), 0);
  }

  private static void ticksOfMoments() {
    ChoraleDesk desk = Sentences.deskWith(0, 16, -16, 16);
    Sentences.add(desk, 3, 30, 6, 6, 4, 96, 4);
    int[] due = {0, 6, 12, 16, 32, 112};
    Sentences.due("moments", desk.moments(), due.length);
    for (int moment = 0; moment < due.length; moment++) {
      Sentences.due("tick of moment " + moment, desk.tickOf(moment), due[moment]);
    }
  }

  private static void soundsOfMoments() {
    ChoraleDesk desk = new ChoraleDesk();
    desk.addNote(0, 62, 2, 16);
    desk.addRest(1, 16);
    desk.addNote(3, 1, -2, 24);
    desk.addRest(0, 16);
    desk.addNote(1, 30, 0, 16);
    Sentences.due("at first", Sentences.soundsOf(desk, 0), "0: 109 -1 -1 0");
    Sentences.due("as one ends and one begins", Sentences.soundsOf(desk, 1), "16: -1 52 -1 0");
    Sentences.add(desk, 0, 30, -16);
    Sentences.due("as the last one has ended", Sentences.soundsOf(desk, 2), "32: -1 -1 -1 -1");
  }

  private static void soundsOfNoPart() {
    noSuchMoment((d, n) -> d.sounds(n, 0));
    ChoraleDesk desk = Sentences.deskWith(0, 16, 16);
    Sentences.refusedEach("no part", INDEX, desk, Sentences.NO_PART, (d, n) -> d.sounds(1, n));
    Sentences.refusedEach("no moment, no part", INDEX, desk, Sentences.NO_PART, (d, n) -> d.sounds(2, n));
  }

  /** C E G in parts 0 to 2, then C E and a rest, then D F A with the A below, then C E G sharp, then C alone. */
  private static ChoraleDesk progression() {
    ChoraleDesk desk = new ChoraleDesk();
    Sentences.add(desk, 0, 39, 16, -16);
    Sentences.add(desk, 0, 38, 16);
    Sentences.add(desk, 1, 37, 32);
    Sentences.add(desk, 1, 36, 16);
    Sentences.add(desk, 2, 35, 32);
    Sentences.add(desk, 2, 33, 16);
    desk.addNote(0, 39, 1, 16);
    desk.addNote(1, 37, 0, 16);
    desk.addNote(2, 35, 0, 16);
    Sentences.add(desk, 2, 35, 16);
    return desk;
  }

  private static void roots() {
    ChoraleDesk desk = progression();
    int[] due = {0, -1, 2, 0, -1};
    for (int moment = 0; moment < due.length; moment++) {
      Sentences.due("root of moment " + moment, desk.root(moment), due[moment]);
    }
    desk.setPitch(2, 0, 35, -1);
    desk.setPitch(1, 0, 36, 1);
    desk.setPitch(0, 0, 38, 1);
    Sentences.due("root of B, as C flat", desk.root(0), 11);
  }

  private static void kinds() {
    ChoraleDesk desk = progression();
    int[] due = {0, -1, 1, 3, -1};
    for (int moment = 0; moment < due.length; moment++) {
      Sentences.due("kind of moment " + moment, desk.kind(moment), due[moment]);
    }
    desk.setPitch(1, 0, 37, -1);
    Sentences.due("minor", desk.kind(0), 1);
    desk.setPitch(0, 0, 39, -1);
    Sentences.due("diminished", desk.kind(0), 2);
    desk.setPitch(0, 0, 39, -2);
    Sentences.due("none", desk.kind(0), -1);
  }

  private static void inversions() {
    ChoraleDesk desk = progression();
    int[] due = {0, -1, 2, 0, -1};
    for (int moment = 0; moment < due.length; moment++) {
      Sentences.due("inversion of moment " + moment, desk.inversion(moment), due[moment]);
    }
    desk.addNote(3, 30, 0, 16);
    Sentences.due("over the second one", desk.inversion(0), 1);
    desk.setPitch(3, 0, 25, 0);
    Sentences.due("over the third one", desk.inversion(0), 2);
    desk.setPitch(3, 0, 28, 0);
    Sentences.due("over the root", desk.inversion(0), 0);
    desk.setPitch(3, 0, 29, 0);
    Sentences.due("over another one", desk.inversion(0), -1);
    desk.setPitch(3, 0, 35, 0);
    desk.setPitch(2, 0, 28, 0);
    desk.setPitch(1, 0, 25, 0);
    Sentences.due("of two classes", desk.inversion(0), -1);
    desk.setPitch(1, 0, 30, 0);
    desk.setPitch(2, 0, 35, 0);
    Sentences.due("the lowest in part 1", desk.inversion(0), 1);
  }

  /** Out of range and leaping at 16 in part 1, crossing at 32 by part 3. */
  private static ChoraleDesk faulty() {
    ChoraleDesk desk = new ChoraleDesk();
    Sentences.add(desk, 1, 35, 16);
    Sentences.add(desk, 1, 44, 32);
    Sentences.add(desk, 3, 28, 16, 16);
    Sentences.add(desk, 3, 45, 16);
    desk.setRange(1, 30, 43);
    return desk;
  }

  private static void faultCounts() {
    Sentences.due("without events", new ChoraleDesk().faults(), 0);
    Sentences.due("of one note", Sentences.deskWith(0, 16).faults(), 0);
    ChoraleDesk desk = faulty();
    Sentences.due("faults", Sentences.faultsOf(desk), "3@16:1 4@16:1 2@32:7 3@32:3");
    desk.setRange(1, 30, 44);
    Sentences.due("in a wider range", desk.faults(), 3);
    desk.setPitch(3, 2, 35, 0);
    Sentences.due("without a leap and a crossing", desk.faults(), 1);
    desk.setPitch(1, 1, 42, 0);
    Sentences.due("without another leap", desk.faults(), 0);
    Sentences.refusedEach("kindOfFault", INDEX, desk, Sentences.noneOf(0), (d, n) -> d.kindOfFault(n));
  }

  private static void kindsOfFaults() {
    ChoraleDesk desk = faulty();
    int[] due = {3, 4, 2, 3};
    for (int fault = 0; fault < due.length; fault++) {
      Sentences.due("kind of fault " + fault, desk.kindOfFault(fault), due[fault]);
    }
    ChoraleDesk parallel = Sentences.deskWith(0, 16);
    Sentences.add(parallel, 0, 36, 16);
    Sentences.add(parallel, 1, 31, 16);
    Sentences.add(parallel, 1, 32, 16);
    Sentences.due("fifths", parallel.kindOfFault(0), 0);
    parallel.setPitch(1, 0, 28, 0);
    parallel.setPitch(1, 1, 29, 0);
    Sentences.due("octaves", parallel.kindOfFault(0), 1);
  }

  private static void ticksOfFaults() {
    ChoraleDesk desk = faulty();
    int[] due = {16, 16, 32, 32};
    for (int fault = 0; fault < due.length; fault++) {
      Sentences.due("tick of fault " + fault, desk.tickOfFault(fault), due[fault]);
    }
    desk.setPitch(1, 0, 29, 0);
    Sentences.due("tick of a fault at first", desk.tickOfFault(0), 0);
    desk.setMetre(0, 1, 8);
    Sentences.due("tick in other bars", desk.tickOfFault(4), 32);
  }

  private static void partsOfFaults() {
    ChoraleDesk desk = faulty();
    int[] due = {1, 1, 7, 3};
    for (int fault = 0; fault < due.length; fault++) {
      Sentences.due("parts of fault " + fault, desk.partsOfFault(fault), due[fault]);
    }
    int[][] pairs = {{0, 1, 1}, {0, 2, 2}, {0, 3, 3}, {1, 2, 6}, {1, 3, 7}, {2, 3, 11}};
    for (int i = 0; i < pairs.length; i++) {
      ChoraleDesk pair = Sentences.deskWith(pairs[i][0], 16);
      Sentences.add(pair, pairs[i][1], 36, 16);
      Sentences.due("parts of a pair", pair.partsOfFault(0), pairs[i][2]);
    }
  }

  private static void faultsIfUp() {
    ChoraleDesk desk = faulty();
    long before = desk.digest();
    Sentences.due("faults", desk.faults(), 4);
    // C up to C: no leap to E any more.
    Sentences.due("of the first note of part 1, out of no range", desk.faultsIfUp(1, 0), 3);
    // E up to E: leap and range stay, and F does not cross it.
    Sentences.due("of the second note of part 1", desk.faultsIfUp(1, 1), 3);
    Sentences.due("of the last note of part 3", desk.faultsIfUp(3, 2), 4);
    // C up to the C of part 1, and 12 down from it.
    Sentences.due("of the first note of part 3", desk.faultsIfUp(3, 0), 4);
    Sentences.due("faults afterwards", desk.faults(), 4);
    Sentences.due("digest afterwards", desk.digest(), before);
    ChoraleDesk high = new ChoraleDesk();
    Sentences.add(high, 0, 55, 16);
    Sentences.add(high, 0, 56, 16);
    Sentences.add(high, 0, 62, 16);
    Sentences.due("up to place 62", high.faultsIfUp(0, 0), 0);
    Sentences.due("up to place 63", high.faultsIfUp(0, 1), -1);
    Sentences.due("up to place 69", high.faultsIfUp(0, 2), -1);
    high.setRange(0, 1, 61);
    Sentences.due("up to place 62, out of range", high.faultsIfUp(0, 0), 2);
    ChoraleDesk leap = new ChoraleDesk();
    Sentences.add(leap, 2, 35, 16, 16);
    Sentences.due("up by 12", leap.faultsIfUp(2, 1), 0);
    leap.setPitch(2, 1, 35, 1);
    Sentences.due("up by 13", leap.faultsIfUp(2, 1), 1);
    leap.addNote(2, 35, 0, 16);
    Sentences.due("up by 13 and down again", leap.faultsIfUp(2, 1), 2);
    Sentences.due("alter kept", leap.heightOf(2, 1), 61);
  }

  private static void faultsIfUpOfRest() {
    ChoraleDesk desk = Sentences.deskWith(3, -16, 16, -16);
    Sentences.refused("of the first rest", STATE, desk, d -> d.faultsIfUp(3, 0));
    Sentences.refused("of the last rest", STATE, desk, d -> d.faultsIfUp(3, 2));
    Sentences.due("of the note", desk.faultsIfUp(3, 1), 0);
  }

  // ---- lines

  private static ChoraleDesk restsFor(int bars) {
    ChoraleDesk desk = new ChoraleDesk();
    for (int bar = 0; bar < bars; bar++) {
      desk.addRest(2, 64);
    }
    return desk;
  }

  private static void barCounts() {
    for (int bars = 0; bars <= 24; bars++) {
      Sentences.due("of " + bars + " full bars", restsFor(bars).bars(), bars);
    }
    ChoraleDesk desk = restsFor(23);
    desk.addRest(2, 4);
    Sentences.due("of 23 bars and 4 ticks", desk.bars(), 24);
    desk.setMetre(0, 1, 8);
    Sentences.due("of more than there is", desk.bars(), 24);
  }

  private static void widths() {
    ChoraleDesk desk = new ChoraleDesk();
    Sentences.due("without events", desk.widthOf(0), 11);
    Sentences.due("without events, the last bar", desk.widthOf(23), 11);
    desk.addRest(0, 32);
    Sentences.due("an event at the begin", desk.widthOf(0), 11);
    desk.addRest(0, 32);
    Sentences.due("an event at the half", desk.widthOf(0), 3 + 7 + 7);
    desk.addRest(0, 64);
    Sentences.due("an event at the end", desk.widthOf(0), 3 + 7 + 7);
    Sentences.add(desk, 3, 30, 16, 16, 16, 12, 4);
    Sentences.due("events at the half and others", desk.widthOf(0), 3 + 6 + 6 + 6 + 5 + 4);
    desk.setKey(0, 4);
    Sentences.due("in four sharps", desk.widthOf(0), 31);
    desk.setKey(0, -5);
    Sentences.due("in five flats", desk.widthOf(0), 32);
  }

  private static void lineCounts() {
    Sentences.due("without bars", new ChoraleDesk().lines(10), 0);
    Sentences.due("without bars, the widest", new ChoraleDesk().lines(400), 0);
    Sentences.due("one bar", restsFor(1).lines(10), 1);
    Sentences.due("24 bars in 11", restsFor(24).lines(11), 24);
    Sentences.due("24 bars in 22", restsFor(24).lines(22), 12);
    Sentences.due("24 bars in 264", restsFor(24).lines(264), 1);
    Sentences.due("24 bars in 400", restsFor(24).lines(400), 1);
  }

  private static void linesOfBars() {
    ChoraleDesk desk = restsFor(5);
    int[] due = {0, 0, 1, 1, 2, -1, -1};
    for (int bar = 0; bar < due.length; bar++) {
      Sentences.due("line of bar " + bar, desk.lineOf(22, bar), due[bar]);
    }
    Sentences.due("line of bar 23", desk.lineOf(22, 23), -1);
    Sentences.due("line without bars", new ChoraleDesk().lineOf(22, 0), -1);
    Sentences.due("line of the last bar of all", restsFor(24).lineOf(11, 23), 23);
    Sentences.due("line of bar 4 in 10", desk.lineOf(10, 4), 4);
    Sentences.due("line of bar 4 in 400", desk.lineOf(400, 4), 0);
  }

  private static void leastCosts() {
    Sentences.due("without bars", new ChoraleDesk().costOf(10), 0);
    Sentences.due("a bar too wide by 1", restsFor(1).costOf(10), 1);
    Sentences.due("a bar as wide", restsFor(1).costOf(11), 0);
    Sentences.due("a bar less wide", restsFor(1).costOf(400), 0);
    Sentences.due("24 bars, each too wide by 1", restsFor(24).costOf(10), 24);
    Sentences.due("24 bars, all but the last one less wide by 1", restsFor(24).costOf(12), 23);
    Sentences.due("24 bars, as wide as 263", restsFor(24).costOf(263), 1);
    Sentences.due("24 bars, as wide as 264", restsFor(24).costOf(264), 0);
    ChoraleDesk taken = restsFor(5);
    int[] due = {5, 4, 3, 2, 1, 0};
    for (int i = 0; i < due.length; i++) {
      Sentences.due("the bars that are left, each too wide by 1", taken.costOf(10), due[i]);
      Sentences.due("their lines", taken.lines(10), due[i]);
      Sentences.due("the line behind them", taken.lineOf(10, due[i]), -1);
      Sentences.accepted("takeLast or addRest", taken, d -> d.events(2) > 0 ? d.takeLast(2) : d.addRest(2, 64));
    }
  }

  private static void noWidth(Sentences.NumberCall call) {
    Sentences.refusedEach("no width", ARGUMENT, Sentences.rich(), NO_WIDTH, call);
    Sentences.refusedEach("no width, no bars", ARGUMENT, new ChoraleDesk(), NO_WIDTH, call);
    Sentences.accepted("the least width", Sentences.rich(), d -> call.on(d, 10));
    Sentences.accepted("the greatest width", Sentences.rich(), d -> call.on(d, 400));
  }

  private static void lineOfNoBar() {
    Sentences.refusedEach("no bar", INDEX, Sentences.rich(), Sentences.NO_BAR, (d, n) -> d.lineOf(10, n));
    Sentences.refusedEach("no bar", INDEX, new ChoraleDesk(), Sentences.NO_BAR, (d, n) -> d.lineOf(400, n));
  }

  private static void meanHeights() {
    Sentences.dueDouble("without events", new ChoraleDesk().meanHeight(), 0.0);
    ChoraleDesk desk = Sentences.deskWith(0, -16);
    Sentences.dueDouble("of a rest", desk.meanHeight(), 0.0);
    desk.addNote(3, 1, -2, 96);
    Sentences.dueDouble("of height 0", desk.meanHeight(), 0.0);
    Sentences.dueDouble("of one note", Sentences.deskWith(2, -16, 16).meanHeight(), 60.0);
    desk.addNote(0, 1, -1, 4);
    Sentences.dueDouble("of 0 and 1", desk.meanHeight(), 0.5);
    desk.addNote(1, 1, -1, 4);
    Sentences.dueDouble("of 0, 1 and 1", desk.meanHeight(), 2.0 / 3.0);
    desk.setPitch(1, 0, 62, 2);
    Sentences.dueDouble("of 0, 1 and 109", desk.meanHeight(), 110.0 / 3.0);
    desk.takeLast(1);
    desk.takeLast(0);
    desk.takeLast(3);
    Sentences.dueDouble("of a rest again", desk.meanHeight(), 0.0);
    ChoraleDesk stranded = Sentences.deskWith(0, 96, 96);
    stranded.addNote(0, 42, 0, 96);
    stranded.setMetre(0, 1, 8);
    Sentences.dueDouble("of notes behind the last bar too", stranded.meanHeight(), 64.0);
  }

  /** The checksum, put together from what the other calls answer. */
  private static final class Checksum {
    private final ChoraleDesk desk;
    private long d = 2467;

    Checksum(ChoraleDesk desk) {
      this.desk = desk;
    }

    private void mix(long... values) {
      for (int i = 0; i < values.length; i++) {
        d = d * 31 + values[i];
      }
    }

    private void mixEvents(int part) {
      mix(desk.events(part));
      for (int event = 0; event < desk.events(part); event++) {
        mix(desk.beginOf(part, event), desk.heightOf(part, event), desk.barOf(part, event));
        mix(desk.writtenPlace(part, event), desk.writtenAlter(part, event));
      }
    }

    private void mixBar(int part, int bar) {
      mix(desk.signs(part, bar), desk.beams(part, bar), desk.missing(part, bar), desk.writtenKey(part, bar));
      for (int sign = 0; sign < desk.signs(part, bar); sign++) {
        mix(desk.eventOf(part, bar, sign), desk.lengthOf(part, bar, sign), desk.isTied(part, bar, sign) ? 1 : 0);
        mix(desk.shown(part, bar, sign), desk.shownWritten(part, bar, sign), desk.beamOf(part, bar, sign));
      }
    }

    long ofAll() {
      for (int part = 0; part < 4; part++) {
        mixEvents(part);
      }
      for (int bar = 0; bar < 24; bar++) {
        mix(desk.beginOfBar(bar), desk.lengthOfBar(bar), desk.widthOf(bar));
        for (int part = 0; part < 4; part++) {
          mixBar(part, bar);
        }
      }
      mix(desk.moments());
      for (int moment = 0; moment < desk.moments(); moment++) {
        mix(desk.tickOf(moment));
        for (int part = 0; part < 4; part++) {
          mix(desk.sounds(moment, part));
        }
        mix(desk.root(moment), desk.kind(moment), desk.inversion(moment));
      }
      mix(desk.faults());
      for (int fault = 0; fault < desk.faults(); fault++) {
        mix(desk.kindOfFault(fault), desk.tickOfFault(fault), desk.partsOfFault(fault));
      }
      mix(desk.bars(), desk.lines(40), desk.costOf(40), desk.lines(100), desk.costOf(100));
      return d;
    }
  }

  private static void digests() {
    ChoraleDesk empty = new ChoraleDesk();
    Sentences.due("of a new object", empty.digest(), new Checksum(empty).ofAll());
    ChoraleDesk rich = Sentences.rich();
    Sentences.due("of a rich score", rich.digest(), new Checksum(rich).ofAll());
    Sentences.due("of it again", rich.digest(), rich.digest());
    rich.setMetre(0, 1, 8);
    Sentences.due("of one with events behind the last bar", rich.digest(), new Checksum(rich).ofAll());
    ChoraleDesk faulty = faulty();
    Sentences.due("of a score with faults", faulty.digest(), new Checksum(faulty).ofAll());
    ChoraleDesk chords = progression();
    Sentences.due("of a score with chords", chords.digest(), new Checksum(chords).ofAll());
  }

  private static void digestChanges() {
    ChoraleDesk desk = Sentences.rich();
    long before = desk.digest();
    desk.lines(30);
    desk.faultsIfUp(0, 0);
    desk.shown(2, 1, 0);
    Sentences.due("after asking", desk.digest(), before);
    desk.setPitch(0, 0, 19, 1);
    Sentences.due("after a change", desk.digest() == before ? 1 : 0, 0);
    desk.setPitch(0, 0, 19, 0);
    Sentences.due("as it was", desk.digest(), before);
  }

  // ---- the promises, one by one

  private static void promisesOfWriting() {
    Sentences.does(1, EdgeTests::newObject);
    Sentences.does(2, EdgeTests::addNoteBehind);
    Sentences.returns(2, EdgeTests::addNoteNumbers);
    Sentences.throwing(2, INDEX, () -> noSuchPart((d, n) -> d.addNote(n, 30, 0, 16)));
    Sentences.throwing(2, ARGUMENT, EdgeTests::addNoteOfNoPitchOrValue);
    Sentences.throwing(2, STATE, () -> addOverTheEnd((d, n) -> d.addNote(3, 30, 0, n)));
    Sentences.does(3, EdgeTests::addRestBehind);
    Sentences.returns(3, EdgeTests::addRestNumbers);
    Sentences.throwing(3, INDEX, () -> noSuchPart((d, n) -> d.addRest(n, 16)));
    Sentences.throwing(3, ARGUMENT,
        () -> Sentences.refusedEach("no value", ARGUMENT, Sentences.rich(), NO_VALUE, (d, n) -> d.addRest(1, n)));
    Sentences.throwing(3, STATE, () -> addOverTheEnd((d, n) -> d.addRest(3, n)));
    Sentences.does(4, EdgeTests::takeLastTakes);
    Sentences.returns(4, EdgeTests::takeLastLengths);
    Sentences.throwing(4, INDEX, () -> noSuchPart((d, n) -> d.takeLast(n)));
    Sentences.throwing(4, STATE, EdgeTests::takeLastOfNone);
    Sentences.does(5, EdgeTests::setPitchGives);
    Sentences.returns(5, EdgeTests::setPitchBefore);
    Sentences.throwing(5, INDEX, () -> noSuchEvent((d, p, e) -> d.setPitch(p, e, 30, 0)));
    Sentences.throwing(5, ARGUMENT, EdgeTests::setPitchToNone);
    Sentences.throwing(5, STATE, EdgeTests::setPitchOfRest);
  }

  private static void promisesOfSetting() {
    Sentences.does(6, EdgeTests::setMetreBehind);
    Sentences.returns(6, EdgeTests::setMetreLengths);
    Sentences.throwing(6, INDEX, () -> Sentences.refusedEach("no bar", INDEX, Sentences.rich(), Sentences.NO_BAR,
        (d, n) -> d.setMetre(n, 5, 8)));
    Sentences.throwing(6, ARGUMENT, EdgeTests::setMetreToNone);
    Sentences.does(7, EdgeTests::setKeyBehind);
    Sentences.returns(7, EdgeTests::setKeyUntilNow);
    Sentences.throwing(7, INDEX, () -> Sentences.refusedEach("no bar", INDEX, Sentences.rich(), Sentences.NO_BAR,
        (d, n) -> d.setKey(n, 7)));
    Sentences.throwing(7, ARGUMENT, EdgeTests::setKeyToNone);
    Sentences.returns(8, EdgeTests::setRangeCounts);
    Sentences.throwing(8, INDEX, () -> noSuchPart((d, n) -> d.setRange(n, 1, 62)));
    Sentences.throwing(8, ARGUMENT, EdgeTests::setRangeToNone);
    Sentences.returns(9, EdgeTests::setShiftCounts);
    Sentences.throwing(9, INDEX, () -> noSuchPart((d, n) -> d.setShift(n, 1, 1)));
    Sentences.throwing(9, ARGUMENT, EdgeTests::setShiftToNone);
  }

  private static void promisesOfEvents() {
    Sentences.returns(10, EdgeTests::eventCounts);
    Sentences.throwing(10, INDEX, () -> noSuchPart((d, n) -> d.events(n)));
    Sentences.returns(11, EdgeTests::beginsOfEvents);
    Sentences.throwing(11, INDEX, () -> noSuchEvent((d, p, e) -> d.beginOf(p, e)));
    Sentences.returns(12, EdgeTests::heightsOfEvents);
    Sentences.throwing(12, INDEX, () -> noSuchEvent((d, p, e) -> d.heightOf(p, e)));
    Sentences.returns(13, EdgeTests::barsOfEvents);
    Sentences.throwing(13, INDEX, () -> noSuchEvent((d, p, e) -> d.barOf(p, e)));
    Sentences.returns(14, EdgeTests::writtenPlaces);
    Sentences.throwing(14, INDEX, () -> noSuchEvent((d, p, e) -> d.writtenPlace(p, e)));
    Sentences.returns(15, EdgeTests::writtenAlters);
    Sentences.throwing(15, INDEX, () -> noSuchEvent((d, p, e) -> d.writtenAlter(p, e)));
    Sentences.returns(16, EdgeTests::altersByKeys);
    Sentences.throwing(16, ARGUMENT, EdgeTests::altersByNoKey);
    Sentences.returns(17, EdgeTests::writtenKeys);
    Sentences.throwing(17, INDEX, () -> noSuchBar((d, p, b) -> d.writtenKey(p, b)));
  }

  private static void promisesOfSigns() {
    Sentences.returns(18, EdgeTests::beginsOfBars);
    Sentences.throwing(18, INDEX, () -> Sentences.refusedEach("no bar", INDEX, Sentences.rich(), Sentences.NO_BAR,
        (d, n) -> d.beginOfBar(n)));
    Sentences.returns(19, EdgeTests::lengthsOfBars);
    Sentences.throwing(19, INDEX, () -> Sentences.refusedEach("no bar", INDEX, Sentences.rich(), Sentences.NO_BAR,
        (d, n) -> d.lengthOfBar(n)));
    Sentences.returns(20, EdgeTests::signCounts);
    Sentences.throwing(20, INDEX, () -> noSuchBar((d, p, b) -> d.signs(p, b)));
    Sentences.returns(21, EdgeTests::eventsOfSigns);
    Sentences.throwing(21, INDEX, () -> noSuchSign((d, p, b, s) -> d.eventOf(p, b, s)));
    Sentences.returns(22, EdgeTests::lengthsOfSigns);
    Sentences.throwing(22, INDEX, () -> noSuchSign((d, p, b, s) -> d.lengthOf(p, b, s)));
    Sentences.returns(23, EdgeTests::tiesOfSigns);
    Sentences.throwing(23, INDEX, () -> noSuchSign((d, p, b, s) -> d.isTied(p, b, s) ? 1 : 0));
    Sentences.returns(24, EdgeTests::shownAlters);
    Sentences.throwing(24, INDEX, () -> noSuchSign((d, p, b, s) -> d.shown(p, b, s)));
    Sentences.returns(25, EdgeTests::shownWrittenAlters);
    Sentences.throwing(25, INDEX, () -> noSuchSign((d, p, b, s) -> d.shownWritten(p, b, s)));
    Sentences.returns(26, EdgeTests::beamCounts);
    Sentences.throwing(26, INDEX, () -> noSuchBar((d, p, b) -> d.beams(p, b)));
    Sentences.returns(27, EdgeTests::beamNumbers);
    Sentences.throwing(27, INDEX, () -> noSuchSign((d, p, b, s) -> d.beamOf(p, b, s)));
    Sentences.returns(28, EdgeTests::missingTicks);
    Sentences.throwing(28, INDEX, () -> noSuchBar((d, p, b) -> d.missing(p, b)));
  }

  private static void promisesOfSounds() {
    Sentences.returns(29, EdgeTests::momentCounts);
    Sentences.returns(30, EdgeTests::ticksOfMoments);
    Sentences.throwing(30, INDEX, () -> noSuchMoment((d, n) -> d.tickOf(n)));
    Sentences.returns(31, EdgeTests::soundsOfMoments);
    Sentences.throwing(31, INDEX, EdgeTests::soundsOfNoPart);
    Sentences.returns(32, EdgeTests::roots);
    Sentences.throwing(32, INDEX, () -> noSuchMoment((d, n) -> d.root(n)));
    Sentences.returns(33, EdgeTests::kinds);
    Sentences.throwing(33, INDEX, () -> noSuchMoment((d, n) -> d.kind(n)));
    Sentences.returns(34, EdgeTests::inversions);
    Sentences.throwing(34, INDEX, () -> noSuchMoment((d, n) -> d.inversion(n)));
    Sentences.returns(35, EdgeTests::faultCounts);
    Sentences.returns(36, EdgeTests::kindsOfFaults);
    Sentences.throwing(36, INDEX, () -> noSuchFault((d, n) -> d.kindOfFault(n)));
    Sentences.returns(37, EdgeTests::ticksOfFaults);
    Sentences.throwing(37, INDEX, () -> noSuchFault((d, n) -> d.tickOfFault(n)));
    Sentences.returns(38, EdgeTests::partsOfFaults);
    Sentences.throwing(38, INDEX, () -> noSuchFault((d, n) -> d.partsOfFault(n)));
    Sentences.returns(39, EdgeTests::faultsIfUp);
    Sentences.throwing(39, INDEX, () -> noSuchEvent((d, p, e) -> d.faultsIfUp(p, e)));
    Sentences.throwing(39, STATE, EdgeTests::faultsIfUpOfRest);
  }

  private static void promisesOfLines() {
    Sentences.returns(40, EdgeTests::barCounts);
    Sentences.returns(41, EdgeTests::widths);
    Sentences.throwing(41, INDEX, () -> Sentences.refusedEach("no bar", INDEX, Sentences.rich(), Sentences.NO_BAR,
        (d, n) -> d.widthOf(n)));
    Sentences.returns(42, EdgeTests::lineCounts);
    Sentences.throwing(42, ARGUMENT, () -> noWidth((d, n) -> d.lines(n)));
    Sentences.returns(43, EdgeTests::linesOfBars);
    Sentences.throwing(43, INDEX, EdgeTests::lineOfNoBar);
    Sentences.throwing(43, ARGUMENT, () -> noWidth((d, n) -> d.lineOf(n, 0)));
    Sentences.returns(44, EdgeTests::leastCosts);
    Sentences.throwing(44, ARGUMENT, () -> noWidth((d, n) -> d.costOf(n)));
    Sentences.returns(45, EdgeTests::meanHeights);
    Sentences.does(46, EdgeTests::digests);
    Sentences.returns(46, EdgeTests::digestChanges);
  }

  public static void main(String[] args) throws IOException {
    Sentences.readPromises();
    promisesOfWriting();
    promisesOfSetting();
    promisesOfEvents();
    promisesOfSigns();
    promisesOfSounds();
    promisesOfLines();
    Sentences.end("all edges hold");
  }
}
