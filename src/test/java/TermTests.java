import java.io.IOException;

/** For each sentence of the terms of the document a test of its own, at the bounds that it names. */
public final class TermTests {
  private static final int MIN = Sentences.MIN;
  private static final int MAX = Sentences.MAX;

  // ---- numbers, and 1. Pitches

  /** The kinds of faults of two parts that go from p0 and q0 to p1 and q1. */
  private static String faultsOfPair(int p0, int p1, int q0, int q1) {
    ChoraleDesk desk = new ChoraleDesk();
    Sentences.add(desk, 1, p0, 16);
    Sentences.add(desk, 1, p1, 16);
    Sentences.add(desk, 2, q0, 16);
    Sentences.add(desk, 2, q1, 16);
    return Sentences.faultsOf(desk);
  }

  private static void wholeNumbers() {
    // Differences of heights: -5 is 7, -7 is 5, -12 is 0, -17 is 7.
    Sentences.due("C F to D G", faultsOfPair(35, 36, 38, 39), "2@0:6 0@16:6 2@16:6");
    Sentences.due("C G to D A", faultsOfPair(35, 36, 39, 40), "2@0:6 2@16:6");
    Sentences.due("C C to D D", faultsOfPair(35, 36, 42, 43), "2@0:6 1@16:6 2@16:6");
    Sentences.due("C F to D G, wide", faultsOfPair(35, 36, 45, 46), "2@0:6 0@16:6 2@16:6");
    // The group is cut: a note at tick 12 of groups of 16 is in the first one.
    Sentences.due("a group", Sentences.beamsOf(Sentences.deskWith(0, 12, 4, 4), 0, 0), "0 0 .");
  }

  private static int heightOf(int place, int alter) {
    ChoraleDesk desk = new ChoraleDesk();
    desk.addNote(3, place, alter, 16);
    return desk.heightOf(3, 0);
  }

  private static void alters() {
    for (int alter = -2; alter <= 2; alter++) {
      Sentences.due("height of C with alter " + alter, heightOf(35, alter), 60 + alter);
    }
    int[] none = {-3, 3, -4, 4, 254, 258, 65536, MIN, MAX};
    ChoraleDesk desk = Sentences.rich();
    Sentences.refusedEach("addNote of alter", Sentences.ARGUMENT, desk, none, (d, n) -> d.addNote(1, 30, n, 16));
    Sentences.refusedEach("setPitch to alter", Sentences.ARGUMENT, desk, none, (d, n) -> d.setPitch(1, 0, 30, n));
  }

  private static void places() {
    Sentences.due("height of the lowest place", heightOf(1, 0), 2);
    Sentences.due("height of the highest place", heightOf(62, 0), 107);
    Sentences.due("height of B, step 6 of octave 0", heightOf(6, 0), 11);
    Sentences.due("height of C, step 0 of octave 1", heightOf(7, 0), 12);
    int[] none = {0, 63, -1, 64, 257, 65537, MIN, MAX};
    ChoraleDesk desk = Sentences.rich();
    Sentences.refusedEach("addNote of place", Sentences.ARGUMENT, desk, none, (d, n) -> d.addNote(1, n, 0, 16));
    Sentences.refusedEach("setPitch to place", Sentences.ARGUMENT, desk, none, (d, n) -> d.setPitch(1, 0, n, 0));
  }

  private static void heights() {
    int[] plain = {
      2, 4, 5, 7, 9, 11, 12, 14, 16, 17, 19, 21, 23, 24, 26, 28, 29, 31, 33, 35, 36, 38, 40, 41, 43, 45, 47, 48, 50,
      52, 53, 55, 57, 59, 60, 62, 64, 65, 67, 69, 71, 72, 74, 76, 77, 79, 81, 83, 84, 86, 88, 89, 91, 93, 95, 96, 98,
      100, 101, 103, 105, 107
    };
    Sentences.due("places", plain.length, 62);
    for (int place = 1; place <= 62; place++) {
      for (int alter = -2; alter <= 2; alter++) {
        Sentences.due("height of place " + place, heightOf(place, alter), plain[place - 1] + alter);
      }
    }
    // The least height is 0, and its class 0; B sharp is of class 0, and C flat of class 11.
    Sentences.due("chord over height 0", Sentences.chordOf(chord(1, -2, 2, 0, 4, 0), 0), "0 0 0");
    Sentences.due("chord over B sharp", Sentences.chordOf(chord(34, 1, 37, 0, 39, 0), 0), "0 0 0");
    Sentences.due("chord over C flat", Sentences.chordOf(chord(35, -1, 36, 1, 38, 1), 0), "11 0 0");
  }

  private static void keys() {
    ChoraleDesk desk = Sentences.rich();
    int[] none = {-8, 8, -9, 9, 249, 256, 65536, MIN, MAX};
    Sentences.refusedEach("setKey", Sentences.ARGUMENT, desk, none, (d, n) -> d.setKey(0, n));
    Sentences.refusedEach("alterIn of key", Sentences.ARGUMENT, desk, none, (d, n) -> d.alterIn(n, 0));
    for (int key = -7; key <= 7; key++) {
      int sum = 0;
      for (int step = 0; step < 7; step++) {
        sum += desk.alterIn(key, step);
      }
      Sentences.due("sharps less flats of key " + key, sum, key);
      desk.setKey(5, key);
      Sentences.due("key", desk.setKey(5, 0), key);
    }
  }

  private static void sharpsAndFlats() {
    String[] due = {
      "-1 -1 -1 -1 -1 -1 -1", "-1 -1 -1 0 -1 -1 -1", "0 -1 -1 0 -1 -1 -1", "0 -1 -1 0 0 -1 -1", "0 0 -1 0 0 -1 -1",
      "0 0 -1 0 0 0 -1", "0 0 0 0 0 0 -1", "0 0 0 0 0 0 0", "0 0 0 1 0 0 0", "1 0 0 1 0 0 0", "1 0 0 1 1 0 0",
      "1 1 0 1 1 0 0", "1 1 0 1 1 1 0", "1 1 1 1 1 1 0", "1 1 1 1 1 1 1"
    };
    ChoraleDesk desk = new ChoraleDesk();
    for (int key = -7; key <= 7; key++) {
      StringBuilder text = new StringBuilder();
      for (int step = 0; step < 7; step++) {
        text.append(step == 0 ? "" : " ").append(desk.alterIn(key, step));
      }
      Sentences.due("alters of key " + key, text.toString(), due[key + 7]);
    }
  }

  // ---- 2. Time

  private static void wholeNote() {
    ChoraleDesk desk = Sentences.deskWith(0, 64);
    Sentences.due("missing of the bar", desk.missing(0, 0), 0);
    Sentences.due("missing of the next bar", desk.missing(0, 1), 64);
  }

  private static void bars() {
    ChoraleDesk desk = Sentences.rich();
    Sentences.due("begin of bar 0", desk.beginOfBar(0), 0);
    Sentences.accepted("bar 23", desk, d -> d.beginOfBar(23));
    Sentences.refusedEach("beginOfBar", Sentences.INDEX, desk, Sentences.NO_BAR, (d, n) -> d.beginOfBar(n));
    Sentences.due("lineOf bar 23", desk.lineOf(10, 23), -1);
    Sentences.refusedEach("lineOf", Sentences.INDEX, desk, Sentences.NO_BAR, (d, n) -> d.lineOf(10, n));
  }

  private static void metres() {
    ChoraleDesk desk = new ChoraleDesk();
    Sentences.due("length at first", desk.lengthOfBar(0) + desk.lengthOfBar(23), 128);
    int[][] units = {{2, 32}, {4, 16}, {8, 8}};
    for (int i = 0; i < units.length; i++) {
      for (int beats = 1; beats <= 12; beats++) {
        int unit = units[i][0];
        Sentences.due(beats + " and " + unit, desk.setMetre(0, beats, unit), beats * units[i][1]);
        Sentences.due(beats + " and " + unit, desk.lengthOfBar(23), beats * units[i][1]);
      }
    }
    int[] noBeats = {0, 13, -1, 14, 257, 1 << 26, MIN, MAX};
    int[] noUnits = {0, 1, 3, 5, 6, 7, 9, 12, 16, 32, 64, 258, -2, -4, -8, MIN, MAX};
    ChoraleDesk rich = Sentences.rich();
    Sentences.refusedEach("setMetre of beats", Sentences.ARGUMENT, rich, noBeats, (d, n) -> d.setMetre(1, n, 4));
    Sentences.refusedEach("setMetre of unit", Sentences.ARGUMENT, rich, noUnits, (d, n) -> d.setMetre(1, 4, n));
  }

  private static void keyAtFirst() {
    ChoraleDesk desk = new ChoraleDesk();
    for (int bar = 23; bar >= 0; bar--) {
      Sentences.due("writtenKey of bar " + bar, desk.writtenKey(0, bar), 0);
      Sentences.due("key of bar " + bar, desk.setKey(bar, 1), 0);
    }
  }

  private static boolean isValue(int value) {
    for (int i = 0; i < Sentences.VALUES.length; i++) {
      if (Sentences.VALUES[i] == value) {
        return true;
      }
    }
    return false;
  }

  private static void values() {
    ChoraleDesk desk = new ChoraleDesk();
    for (int i = -100; i <= 300; i++) {
      int value = i;
      if (isValue(value)) {
        Sentences.due("addNote of value " + value, desk.addNote(0, 30, 0, value), 0);
        Sentences.due("its value", desk.takeLast(0), value);
        Sentences.due("addRest of value " + value, desk.addRest(0, value), 0);
        Sentences.due("its value", desk.takeLast(0), value);
      } else {
        Sentences.refused("addNote of value " + value, Sentences.ARGUMENT, desk, d -> d.addNote(0, 30, 0, value));
        Sentences.refused("addRest of value " + value, Sentences.ARGUMENT, desk, d -> d.addRest(0, value));
      }
    }
    int[] none = {65536 + 16, 1 << 30, MIN + 16, MIN, MAX};
    Sentences.refusedEach("addNote of value", Sentences.ARGUMENT, desk, none, (d, n) -> d.addNote(0, 30, 0, n));
    Sentences.refusedEach("addRest of value", Sentences.ARGUMENT, desk, none, (d, n) -> d.addRest(0, n));
  }

  private static void parts() {
    ChoraleDesk desk = new ChoraleDesk();
    for (int part = 0; part < 4; part++) {
      Sentences.due("addNote in part " + part, desk.addNote(part, 36 - part, 0, 16), 0);
    }
    Sentences.due("faults of parts that fall", desk.faults(), 0);
    Sentences.refusedEach("events", Sentences.INDEX, desk, Sentences.NO_PART, (d, n) -> d.events(n));
    ChoraleDesk upside = new ChoraleDesk();
    for (int part = 0; part < 4; part++) {
      upside.addNote(part, 36 + part, 0, 16);
    }
    Sentences.due("faults of parts that rise", Sentences.faultsOf(upside), "2@0:1 2@0:2 2@0:3 2@0:6 2@0:7 2@0:11");
  }

  private static void emptyRows() {
    ChoraleDesk desk = new ChoraleDesk();
    for (int p = 0; p < 4; p++) {
      int part = p;
      Sentences.due("events", desk.events(part), 0);
      Sentences.refused("takeLast", Sentences.STATE, desk, d -> d.takeLast(part));
      Sentences.refused("beginOf", Sentences.INDEX, desk, d -> d.beginOf(part, 0));
      Sentences.refused("setPitch", Sentences.INDEX, desk, d -> d.setPitch(part, 0, 30, 0));
      Sentences.refused("faultsIfUp", Sentences.INDEX, desk, d -> d.faultsIfUp(part, 0));
      Sentences.refused("eventOf", Sentences.INDEX, desk, d -> d.eventOf(part, 0, 0));
    }
  }

  private static void notesAndRests() {
    ChoraleDesk desk = Sentences.deskWith(0, 24, -6);
    Sentences.due("height of a note", desk.heightOf(0, 0), 60);
    Sentences.due("height of a rest", desk.heightOf(0, 1), -1);
    Sentences.due("length of a rest", desk.takeLast(0), 6);
    Sentences.due("length of a note", desk.takeLast(0), 24);
  }

  private static void begins() {
    ChoraleDesk desk = new ChoraleDesk();
    int[] due = {0, 64, 96, 112, 120, 124, 220, 268, 292, 304};
    for (int i = 0; i < due.length; i++) {
      Sentences.add(desk, 2, 35, i % 3 == 1 ? -Sentences.VALUES[i] : Sentences.VALUES[i]);
      Sentences.due("begin of event " + i, desk.beginOf(2, i), due[i]);
    }
    Sentences.due("ticks of bar 4 behind all", desk.missing(2, 4), 320 - 310);
    Sentences.add(desk, 3, 35, 4);
    Sentences.due("begin in another part", desk.beginOf(3, 0), 0);
  }

  private static ChoraleDesk full() {
    ChoraleDesk desk = new ChoraleDesk();
    for (int i = 0; i < 16; i++) {
      desk.addNote(1, 30, 0, 96);
    }
    return desk;
  }

  private static void endOfTheBars() {
    ChoraleDesk desk = full();
    for (int i = 0; i < Sentences.VALUES.length; i++) {
      int value = Sentences.VALUES[i];
      Sentences.refused("addNote in a full part", Sentences.STATE, desk, d -> d.addNote(1, 30, 0, value));
      Sentences.refused("addRest in a full part", Sentences.STATE, desk, d -> d.addRest(1, value));
    }
    Sentences.due("addNote in another part", desk.addNote(2, 30, 0, 4), 0);
    desk.takeLast(1);
    Sentences.due("addRest of 64, 32 ticks ahead of the end", desk.addRest(1, 64), 15);
    Sentences.refused("addNote of 48, 16 ticks too long", Sentences.STATE, desk, d -> d.addNote(1, 30, 0, 48));
    Sentences.due("addNote of 24", desk.addNote(1, 30, 0, 24), 16);
    Sentences.refused("addRest of 12, 4 ticks too long", Sentences.STATE, desk, d -> d.addRest(1, 12));
    Sentences.due("addRest of 4", desk.addRest(1, 4), 17);
    Sentences.refused("addNote of 6, 2 ticks too long", Sentences.STATE, desk, d -> d.addNote(1, 30, 0, 6));
    Sentences.due("addNote of 4, up to the end", desk.addNote(1, 30, 0, 4), 18);
    Sentences.refused("addNote of 4", Sentences.STATE, desk, d -> d.addNote(1, 30, 0, 4));
    endAfterOtherMetres();
    shortestAndLongestBars();
    strandedEvents();
  }

  private static void endAfterOtherMetres() {
    ChoraleDesk desk = full();
    desk.setMetre(23, 5, 4);
    Sentences.due("addNote of 16 in a longer bar", desk.addNote(1, 30, 0, 16), 16);
    Sentences.refused("addNote behind it", Sentences.STATE, desk, d -> d.addNote(1, 30, 0, 4));
    desk.setMetre(23, 4, 4);
    Sentences.due("begin of what lies behind", desk.beginOf(1, 16), 1536);
    Sentences.due("bar of what lies behind", desk.barOf(1, 16), -1);
    Sentences.refused("addNote behind that", Sentences.STATE, desk, d -> d.addNote(1, 30, 0, 4));
    Sentences.due("takeLast of that", desk.takeLast(1), 16);
    Sentences.refused("addNote at the end", Sentences.STATE, desk, d -> d.addNote(1, 30, 0, 4));
    desk.setMetre(23, 3, 4);
    desk.takeLast(1);
    Sentences.refused("addNote of 96 in a shorter bar", Sentences.STATE, desk, d -> d.addNote(1, 30, 0, 96));
    Sentences.due("addNote of 64 in a shorter bar", desk.addNote(1, 30, 0, 64), 15);
  }

  private static void shortestAndLongestBars() {
    ChoraleDesk desk = new ChoraleDesk();
    desk.setMetre(0, 1, 8);
    Sentences.due("addNote", desk.addNote(0, 30, 0, 96), 0);
    Sentences.due("addNote up to tick 192", desk.addNote(0, 30, 0, 96), 1);
    Sentences.refused("addNote behind tick 192", Sentences.STATE, desk, d -> d.addNote(0, 30, 0, 4));
    desk.setMetre(0, 12, 2);
    for (int event = 2; event < 96; event++) {
      Sentences.due("addNote", desk.addNote(0, 30, 0, 96), event);
    }
    Sentences.refused("addNote behind tick 9216", Sentences.STATE, desk, d -> d.addNote(0, 30, 0, 4));
    Sentences.due("bar of the last one", desk.barOf(0, 95), 23);
  }

  private static void strandedEvents() {
    ChoraleDesk desk = Sentences.deskWith(0, 96, 64, 24, 16, -4);
    desk.setMetre(0, 1, 8);
    // The bars end at tick 192: 160 to 184, 184 to 200, and 200 to 204, which is in none.
    Sentences.due("bar of the event up to the last bar", desk.barOf(0, 2), 20);
    Sentences.due("bar of the event over the end", desk.barOf(0, 3), 23);
    Sentences.due("bar of the event behind the end", desk.barOf(0, 4), -1);
    Sentences.due("events in bar 23", Sentences.eventsOf(desk, 0, 23), "3");
    Sentences.due("signs in bar 23", Sentences.signsOf(desk, 0, 23), "8");
    Sentences.due("missing in bar 23", desk.missing(0, 23), 0);
    Sentences.due("events", desk.events(0), 5);
    Sentences.due("begin", desk.beginOf(0, 4), 200);
    Sentences.due("moments", desk.moments(), 5);
    Sentences.due("tick of the last moment", desk.tickOf(4), 200);
    desk.setMetre(0, 4, 4);
    Sentences.due("bar of the event, as it was", desk.barOf(0, 4), 3);
  }

  private static void rangeAndShiftAtFirst() {
    ChoraleDesk desk = Sentences.deskWith(3);
    desk.addNote(3, 1, -2, 16);
    desk.addRest(3, 16);
    desk.addNote(3, 62, 2, 16);
    Sentences.due("faults", desk.faults(), 0);
    Sentences.due("writtenPlace", desk.writtenPlace(3, 0), 1);
    Sentences.due("writtenAlter", desk.writtenAlter(3, 0), -2);
    Sentences.due("writtenPlace", desk.writtenPlace(3, 2), 62);
    Sentences.due("writtenAlter", desk.writtenAlter(3, 2), 2);
    Sentences.due("writtenKey", desk.writtenKey(3, 0), 0);
  }

  // ---- 3. Writing

  private static void stretchesInBars() {
    ChoraleDesk desk = Sentences.deskWith(0, -48, 96, 48);
    String[] due = {"48 16~", "64~", "16 48", ""};
    for (int bar = 0; bar < due.length; bar++) {
      Sentences.due("signs of bar " + bar, Sentences.signsOf(desk, 0, bar), due[bar]);
    }
    desk.setMetre(0, 1, 8);
    for (int bar = 0; bar < 24; bar++) {
      // The rest has six bars, the note of 96 twelve, the last one six.
      boolean tied = bar >= 6 && bar != 17 && bar != 23;
      Sentences.due("signs of short bar " + bar, Sentences.signsOf(desk, 0, bar), tied ? "8~" : "8");
      Sentences.due("event of short bar " + bar, desk.eventOf(0, bar, 0), bar < 6 ? 0 : bar < 18 ? 1 : 2);
    }
  }

  /** The signs of a stretch, that of one note of 96 ticks in the second of two bars of 384 ticks. */
  private static String stretch(int ticks) {
    ChoraleDesk desk = new ChoraleDesk();
    desk.setMetre(0, 12, 2);
    Sentences.restUpTo(desk, 0, 288 + ticks);
    desk.addNote(0, 35, 0, 96);
    return Sentences.signsOf(desk, 0, 1).replace("~", "");
  }

  private static void signsOfStretches() {
    String[] due = {
      "2", "4", "6", "8", "8 2", "12", "12 2", "16", "16 2", "16 4", "16 6", "24", "24 2", "24 4", "24 6", "32", "32 2",
      "32 4", "32 6", "32 8", "32 8 2", "32 12", "32 12 2", "48", "48 2", "48 4", "48 6", "48 8", "48 8 2", "48 12",
      "48 12 2", "64", "64 2", "64 4", "64 6", "64 8", "64 8 2", "64 12", "64 12 2", "64 16", "64 16 2", "64 16 4",
      "64 16 6", "64 24", "64 24 2", "64 24 4", "64 24 6", "96"
    };
    for (int i = 0; i < due.length; i++) {
      Sentences.due("signs of a stretch of " + (2 * i + 2), stretch(2 * i + 2), due[i]);
    }
    // Over beats: nothing is broken at the ticks 16, 32 and 48.
    Sentences.due("signs over beats", Sentences.signsOf(Sentences.deskWith(0, 8, 16, 24, 16), 0, 0), "8 16 24 16");
  }

  private static void examplesOfStretches() {
    // All lengths and bars are even, so that a stretch of 5 can't come.
    Sentences.due("64 + 16", stretch(80), "64 16");
    Sentences.due("40", stretch(40), "32 8");
    Sentences.due("20", stretch(20), "16 4");
  }

  private static void numbersOfSigns() {
    ChoraleDesk desk = Sentences.deskWith(1, 24, 32, -24, 48);
    Sentences.due("events of bar 0", Sentences.eventsOf(desk, 1, 0), "0 1 2");
    Sentences.due("events of bar 1", Sentences.eventsOf(desk, 1, 1), "2 3");
    Sentences.refusedEach("eventOf", Sentences.INDEX, desk, Sentences.noneOf(3), (d, n) -> d.eventOf(1, 0, n));
    Sentences.refusedEach("eventOf", Sentences.INDEX, desk, Sentences.noneOf(0), (d, n) -> d.eventOf(1, 2, n));
  }

  private static void ties() {
    Sentences.due("a note that fills its bar", Sentences.signsOf(Sentences.deskWith(0, 64, 64), 0, 0), "64");
    ChoraleDesk in = Sentences.deskWith(0, 24, 96, -96);
    Sentences.due("in a bar, and over the bar line", Sentences.signsOf(in, 0, 0), "24 32~ 8~");
    Sentences.due("in the next bar", Sentences.signsOf(in, 0, 1), "48~ 8 8");
    Sentences.due("a rest in two bars", Sentences.signsOf(in, 0, 2), "64");
    Sentences.due("a rest in two signs", Sentences.signsOf(in, 0, 3), "24");
    Sentences.due("a rest of two signs", Sentences.signsOf(Sentences.deskWith(0, 24, -48), 0, 0), "24 32 8");
    ChoraleDesk same = Sentences.deskWith(0, 16, 16, 32, 4);
    Sentences.due("notes of the same pitch", Sentences.signsOf(same, 0, 0), "16 16 32");
    ChoraleDesk last = Sentences.deskWith(0, 96, 64, 32, 16);
    last.setMetre(0, 1, 8);
    Sentences.due("in the bar ahead of the last one", Sentences.signsOf(last, 0, 22), "8~");
    Sentences.due("in the last bar", Sentences.signsOf(last, 0, 23), "8");
  }

  private static void groups() {
    int[][] groups = {
      {2, 32, 32, 32, 32, 32, 32, 32, 32, 32, 32, 32, 32}, {4, 16, 16, 16, 16, 16, 16, 16, 16, 16, 16, 16, 16},
      {8, 16, 16, 24, 16, 16, 24, 16, 16, 24, 16, 16, 24}
    };
    for (int i = 0; i < groups.length; i++) {
      for (int beats = 1; beats <= 12; beats++) {
        ChoraleDesk desk = new ChoraleDesk();
        int notes = desk.setMetre(1, beats, groups[i][0]) / 8;
        // The first bar is of another length, so that groups go by the bar's begin.
        desk.setMetre(0, 5, 8);
        desk.setMetre(1, beats, groups[i][0]);
        Sentences.add(desk, 2, 30, 16, 24);
        StringBuilder due = new StringBuilder();
        for (int note = 0; note < notes; note++) {
          desk.addNote(2, 30, 0, 8);
          int beam = 8 * note / groups[i][beats];
          boolean alone = note == notes - 1 && 8 * note % groups[i][beats] == 0;
          due.append(alone ? "." : String.valueOf(beam)).append(' ');
        }
        String metre = beats + " and " + groups[i][0];
        Sentences.due("beams in " + metre, Sentences.beamsOf(desk, 2, 1), due.toString().trim());
      }
    }
    Sentences.due("12 and 4, then 4s", beams(4, 4, 12, 4, 4, 4, 4, 4, 4), "0 0 1 1 1 1 .");
    Sentences.due("12 over the bound of a group", beams(4, 4, 8, 12, 4, 8), "0 0 1 1");
    // Signs that begin 2 ticks ahead of a bound are still of the group ahead of it.
    Sentences.due("ticks 14 and 16 in 4 and 4", beams(4, 4, 8, 6, 6, 4), "0 0 0 .");
    Sentences.due("ticks 30 and 36 in 4 and 4", beams(4, 4, 16, 8, 6, 6, 4, 4), ". 0 0 0 1 1");
    Sentences.due("ticks 22 and 28 in 6 and 8", beams(6, 8, 16, 6, 6, 4, 4), ". 0 0 1 1");
    Sentences.due("ticks 46 and 52 in 9 and 8", beams(9, 8, 24, 16, 6, 6, 4, 4), ". . 0 0 1 1");
    Sentences.due("ticks 30 and 36 in 2 and 2", beams(2, 2, 24, 6, 6, 4, 4), ". 0 0 1 1");
  }

  /** The beams of notes (and rests, less than 0) in bar 0. */
  private static String beams(int beats, int unit, int... values) {
    ChoraleDesk desk = new ChoraleDesk();
    desk.setMetre(0, beats, unit);
    Sentences.add(desk, 2, 30, values);
    return Sentences.beamsOf(desk, 2, 0);
  }

  private static void shortSigns() {
    Sentences.due("12 and 12", beams(3, 8, 12, 12), "0 0");
    Sentences.due("12 and 6", beams(3, 8, 12, 6), "0 0");
    Sentences.due("16 and 8", beams(3, 8, 16, 8), ". .");
    Sentences.due("8 and 16", beams(3, 8, 8, 16), ". .");
    Sentences.due("rests", beams(3, 8, -8, -8, -8), ". . .");
    Sentences.due("a note and a rest", beams(3, 8, 8, -8), ". .");
    ChoraleDesk left = Sentences.deskWith(0, 6, 6, 6);
    left.setMetre(0, 1, 8);
    Sentences.due("lengths of short bar 0", Sentences.signsOf(left, 0, 0), "6 2~");
    Sentences.due("lengths of short bar 1", Sentences.signsOf(left, 0, 1), "4 4~");
    Sentences.due("a sign of 2", Sentences.beamsOf(left, 0, 0), "0 0");
    ChoraleDesk tied = Sentences.deskWith(0, -24, 96, 4, 4);
    Sentences.due("lengths", Sentences.signsOf(tied, 0, 0), "24 32~ 8~");
    Sentences.due("a follower alone", Sentences.beamsOf(tied, 0, 0), ". . .");
    Sentences.due("lengths", Sentences.signsOf(tied, 0, 1), "48~ 8 4 4");
    Sentences.due("a follower and its neighbours", Sentences.beamsOf(tied, 0, 1), ". 0 0 0");
  }

  private static void rowsOfShortSigns() {
    Sentences.due("one", beams(2, 2, 8, 24), ". .");
    Sentences.due("two", beams(2, 2, 8, 8, 16), "0 0 .");
    Sentences.due("as long as can be", beams(2, 2, 4, 4, 4, 4, 4, 4, 4, 4), "0 0 0 0 0 0 0 0");
    Sentences.due("rests between", beams(2, 2, 4, 4, -4, 4, 4, 4, -4, 4), "0 0 . 1 1 1 . .");
    Sentences.due("a long note between", beams(2, 2, 4, 4, 16, 4, 4), "0 0 . 1 1");
    Sentences.due("another group right behind", beams(2, 2, -24, 4, 4, 4, 4), ". 0 0 1 1");
    Sentences.due("one on each side of the bound", beams(2, 2, -24, -4, 4, 4), ". . . .");
    ChoraleDesk desk = new ChoraleDesk();
    desk.setMetre(0, 2, 4);
    Sentences.add(desk, 0, 30, 24, 8, 8, 24, 8, 8, 8, 8);
    Sentences.due("one on each side of the bar line", Sentences.beamsOf(desk, 0, 0), ". .");
    Sentences.due("one on each side of the bar line", Sentences.beamsOf(desk, 0, 1), ". .");
    Sentences.due("numbers from 0 in each bar", Sentences.beamsOf(desk, 0, 2), "0 0 1 1");
  }

  private static void altersInForce() {
    ChoraleDesk desk = new ChoraleDesk();
    desk.setKey(0, 7);
    desk.setKey(1, -7);
    desk.setKey(2, 0);
    for (int bar = 0; bar < 3; bar++) {
      desk.addNote(0, 38, 1, 8);
      desk.addNote(0, 45, 1, 8);
      desk.addNote(0, 45, -1, 16);
      desk.addNote(0, 38, 0, 32);
      desk.addNote(1, 38, -1, 64);
    }
    Sentences.due("in seven sharps", Sentences.shownIn(desk, 0, 0), ". . -1 0");
    Sentences.due("in seven flats", Sentences.shownIn(desk, 0, 1), "1 1 -1 0");
    Sentences.due("in no key", Sentences.shownIn(desk, 0, 2), "1 1 -1 0");
    Sentences.due("another part", Sentences.shownIn(desk, 1, 0), "-1");
    Sentences.due("another part", Sentences.shownIn(desk, 1, 1), ".");
    Sentences.due("another part", Sentences.shownIn(desk, 1, 2), "-1");
  }

  private static void firstSigns() {
    ChoraleDesk desk = new ChoraleDesk();
    int[] alters = {0, 1, 1, 2, -2, 0, 0, -1};
    for (int i = 0; i < alters.length; i++) {
      desk.addNote(0, 1, alters[i], 8);
      desk.addNote(3, 62, alters[i], 8);
    }
    desk.addNote(0, 1, -1, 8);
    Sentences.due("the lowest place", Sentences.shownIn(desk, 0, 0), ". 1 . 2 -2 0 . -1");
    Sentences.due("the highest place", Sentences.shownIn(desk, 3, 0), ". 1 . 2 -2 0 . -1");
    Sentences.due("the next bar", Sentences.shownIn(desk, 0, 1), "-1");
    ChoraleDesk tied = new ChoraleDesk();
    tied.addNote(0, 38, 1, 96);
    Sentences.due("the first sign", Sentences.shownIn(tied, 0, 0), "1");
    tied.setMetre(0, 5, 8);
    Sentences.due("the first sign of two in the bar", Sentences.shownIn(tied, 0, 0), "1 .");
  }

  private static void followers() {
    ChoraleDesk desk = new ChoraleDesk();
    desk.addRest(0, 24);
    desk.addNote(0, 38, 1, 48);
    desk.addNote(0, 38, 0, 8);
    desk.addNote(0, 38, 1, 8);
    desk.addNote(0, 38, 1, 8);
    Sentences.due("signs of bar 0", Sentences.signsOf(desk, 0, 0), "24 32~ 8~");
    Sentences.due("signs of bar 1", Sentences.signsOf(desk, 0, 1), "8 8 8 8");
    Sentences.due("a follower in its bar", Sentences.shownIn(desk, 0, 0), ". 1 .");
    // F sharp is not in force in the next bar, so that F shows none, and F sharp shows its alter.
    Sentences.due("a follower in the next bar", Sentences.shownIn(desk, 0, 1), ". . 1 .");
    Sentences.due("a follower in the next bar, as written", Sentences.shownWrittenIn(desk, 0, 1), ". . 1 .");
  }

  // ---- 4. Shifts

  private static void shifts() {
    ChoraleDesk desk = Sentences.rich();
    for (int fifths = -6; fifths <= 6; fifths++) {
      for (int octaves = -2; octaves <= 2; octaves++) {
        int f = fifths;
        int o = octaves;
        Sentences.accepted("setShift by " + f + " and " + o, desk, d -> d.setShift(0, f, o));
        Sentences.due("writtenKey", desk.writtenKey(0, 0), f == 6 ? -4 : f + 2);
      }
    }
    int[] noFifths = {-7, 7, -8, 8, 256, 65536, MIN, MAX};
    int[] noOctaves = {-3, 3, -4, 4, 256, 65536, MIN, MAX};
    Sentences.refusedEach("setShift by fifths", Sentences.ARGUMENT, desk, noFifths, (d, n) -> d.setShift(0, n, 0));
    Sentences.refusedEach("setShift by octaves", Sentences.ARGUMENT, desk, noOctaves, (d, n) -> d.setShift(0, 0, n));
  }

  /** The written pitch of a note in a part with a shift. */
  private static String written(int place, int alter, int fifths, int octaves) {
    ChoraleDesk desk = new ChoraleDesk();
    desk.setShift(0, fifths, octaves);
    desk.addNote(0, place, alter, 16);
    int none = desk.setShift(0, fifths, octaves);
    Sentences.due("setShift", none, desk.writtenPlace(0, 0) == -1 ? 1 : 0);
    return desk.writtenPlace(0, 0) + " " + desk.writtenAlter(0, 0);
  }

  private static void writtenPitches() {
    Sentences.due("C, no shift", written(35, 0, 0, 0), "35 0");
    Sentences.due("C, a fifth up", written(35, 0, 1, 0), "39 0");
    Sentences.due("C, a fifth down", written(35, 0, -1, 0), "31 0");
    Sentences.due("C, 6 fifths up", written(35, 0, 6, 0), "59 1");
    Sentences.due("C, 6 fifths down", written(35, 0, -6, 0), "11 -1");
    Sentences.due("C, 2 octaves up", written(35, 0, 0, 2), "49 0");
    Sentences.due("C, 2 octaves down", written(35, 0, 0, -2), "21 0");
    Sentences.due("C, 6 fifths up, 2 octaves down", written(35, 0, 6, -2), "45 1");
    Sentences.due("C, 6 fifths down, 2 octaves up", written(35, 0, -6, 2), "25 -1");
    Sentences.due("C, a second up", written(35, 0, 2, -1), "36 0");
    Sentences.due("B, a fifth up", written(34, 0, 1, 0), "38 1");
    Sentences.due("F, a fifth down", written(38, 0, -1, 0), "34 -1");
    Sentences.due("C with two flats, an octave down", written(35, -2, 0, -1), "28 -2");
  }

  private static void noWrittenPitch() {
    Sentences.due("B sharp, a fifth up: alter 2", written(34, 1, 1, 0), "38 2");
    Sentences.due("B with two sharps, a fifth up: alter 3", written(34, 2, 1, 0), "-1 -3");
    Sentences.due("F flat, a fifth down: alter -2", written(38, -1, -1, 0), "34 -2");
    Sentences.due("F with two flats, a fifth down: alter -3", written(38, -2, -1, 0), "-1 -3");
    Sentences.due("place 5 down to 1", written(5, 0, -1, 0), "1 0");
    Sentences.due("place 4 down to 0", written(4, 0, -1, 0), "-1 -3");
    Sentences.due("place 58 up to 62", written(58, 0, 1, 0), "62 0");
    Sentences.due("place 59 up to 63", written(59, 0, 1, 0), "-1 -3");
    Sentences.due("place 8 down to 1", written(8, 0, 0, -1), "1 0");
    Sentences.due("place 7 down to 0", written(7, 0, 0, -1), "-1 -3");
    Sentences.due("place 55 up to 62", written(55, 0, 0, 1), "62 0");
    Sentences.due("place 56 up to 63", written(56, 0, 0, 1), "-1 -3");
    Sentences.due("the highest place far up", written(62, 2, 6, 2), "-1 -3");
    Sentences.due("the lowest place far down", written(1, -2, -6, -2), "-1 -3");
  }

  private static void writtenKeys() {
    int[][] due = {
      {1, 6, 7}, {2, 6, -4}, {7, 1, -4}, {7, 6, 1}, {7, 0, 7}, {6, 1, 7}, {-1, -6, -7}, {-2, -6, 4}, {-7, -1, 4},
      {-7, -6, -1}, {-7, 0, -7}, {-6, -1, -7}, {0, 6, 6}, {0, -6, -6}, {7, -6, 1}, {-7, 6, -1}
    };
    for (int i = 0; i < due.length; i++) {
      ChoraleDesk desk = new ChoraleDesk();
      desk.setKey(23, due[i][0]);
      desk.setShift(3, due[i][1], 2);
      Sentences.due("writtenKey of " + due[i][0] + " and " + due[i][1], desk.writtenKey(3, 23), due[i][2]);
      Sentences.due("writtenKey of the other part", desk.writtenKey(2, 23), due[i][0]);
      Sentences.due("writtenKey of the bar ahead", desk.writtenKey(3, 22), due[i][1]);
    }
  }

  private static void shownAsWritten() {
    ChoraleDesk desk = new ChoraleDesk();
    desk.setKey(0, 5);
    desk.setShift(0, 3, -2);
    // In B, written in A flat: D sharp is written as B sharp, C sharp as A sharp, E as C sharp.
    desk.addNote(0, 36, 1, 16);
    desk.addNote(0, 35, 1, 16);
    desk.addNote(0, 37, 0, 16);
    desk.addNote(0, 37, -1, 16);
    Sentences.due("as they sound", Sentences.shownIn(desk, 0, 0), ". . . -1");
    Sentences.due("as written", Sentences.shownWrittenIn(desk, 0, 0), "1 1 1 0");
    Sentences.due("writtenKey", desk.writtenKey(0, 0), -4);
    ChoraleDesk none = new ChoraleDesk();
    none.setShift(0, 1, 0);
    // B is written as F sharp, which is in the key; B with two sharps has no written pitch.
    none.addNote(0, 34, -1, 16);
    none.addNote(0, 34, 2, 16);
    none.addNote(0, 34, -1, 16);
    none.addNote(0, 34, 0, 16);
    Sentences.due("around a note without a written pitch", Sentences.shownIn(none, 0, 0), "-1 2 -1 0");
    Sentences.due("around it as written", Sentences.shownWrittenIn(none, 0, 0), "0 . . 1");
    ChoraleDesk high = new ChoraleDesk();
    high.setShift(0, 0, 2);
    high.addNote(0, 62, 1, 16);
    high.addNote(0, 48, 1, 16);
    Sentences.due("a place that is too high", Sentences.shownWrittenIn(high, 0, 0), ". 1");
  }

  // ---- 5. What sounds

  private static void moments() {
    ChoraleDesk desk = new ChoraleDesk();
    Sentences.due("moments without events", desk.moments(), 0);
    desk.addRest(1, 16);
    Sentences.due("moments of a rest, its end not counted", desk.moments(), 1);
    desk.addNote(0, 35, 0, 64);
    Sentences.due("moments of one tick in two parts", desk.moments(), 1);
    desk.addNote(1, 35, 0, 4);
    Sentences.due("moments", desk.moments(), 2);
    desk.takeLast(1);
    Sentences.due("moments", desk.moments(), 1);
  }

  private static void numbersOfMoments() {
    ChoraleDesk desk = Sentences.deskWith(0, 64, 16);
    Sentences.add(desk, 3, 30, 24, -24, 16, 16);
    int[] due = {0, 24, 48, 64};
    Sentences.due("moments", desk.moments(), due.length);
    for (int moment = 0; moment < due.length; moment++) {
      Sentences.due("tickOf", desk.tickOf(moment), due[moment]);
    }
    Sentences.refusedEach("tickOf", Sentences.INDEX, desk, Sentences.noneOf(4), (d, n) -> d.tickOf(n));
  }

  private static void sounds() {
    ChoraleDesk desk = Sentences.deskWith(0, 16, 16);
    Sentences.add(desk, 1, 30, 16, -16, 4);
    Sentences.add(desk, 2, 29, 96);
    Sentences.add(desk, 3, 1, -12, 4, 8);
    Sentences.due("all begin", Sentences.soundsOf(desk, 0), "0: 60 52 50 -1");
    Sentences.due("one begins behind a rest", Sentences.soundsOf(desk, 1), "12: 60 52 50 2");
    Sentences.due("one ends as others begin", Sentences.soundsOf(desk, 2), "16: 60 -1 50 2");
    Sentences.due("two have ended", Sentences.soundsOf(desk, 3), "32: -1 52 50 -1");
    ChoraleDesk least = new ChoraleDesk();
    least.addNote(0, 1, -2, 16);
    Sentences.due("height 0 sounds", Sentences.soundsOf(least, 0), "0: 0 -1 -1 -1");
  }

  /** A desk with one note in each part, of places and alters. */
  private static ChoraleDesk chord(int... pitches) {
    ChoraleDesk desk = new ChoraleDesk();
    for (int i = 0; i + 1 < pitches.length; i += 2) {
      desk.addNote(i / 2, pitches[i], pitches[i + 1], 16);
    }
    return desk;
  }

  private static void chords() {
    int[][] tones = {{0, 4, 7}, {0, 3, 7}, {0, 3, 6}, {0, 4, 8}};
    int[] places = {35, 35, 36, 37, 37, 38, 38, 39, 40, 40, 41, 41};
    int[] alters = {0, 1, 0, -1, 0, 0, 1, 0, -1, 0, -1, 0};
    for (int root = 0; root < 12; root++) {
      for (int kind = 0; kind < 4; kind++) {
        for (int low = 0; low < 3; low++) {
          int[] pitches = new int[6];
          for (int tone = 0; tone < 3; tone++) {
            int heard = (root + tones[kind][tone]) % 12;
            pitches[2 * tone] = places[heard] - (tone == low ? 14 : 0);
            pitches[2 * tone + 1] = alters[heard];
          }
          int lowest = (root + tones[kind][low]) % 12;
          String due = kind == 3 ? lowest + " 3 0" : root + " " + kind + " " + low;
          Sentences.due("root " + root + ", kind " + kind + ", lowest " + low,
              Sentences.chordOf(chord(pitches), 0), due);
        }
      }
    }
    Sentences.due("a class twice", Sentences.chordOf(chord(42, 0, 39, 0, 37, 0, 35, 0), 0), "0 0 0");
    Sentences.due("a class spelled twice", Sentences.chordOf(chord(41, 0, 38, 0, 36, 0, 35, -1), 0), "11 2 0");
    Sentences.due("held notes", Sentences.chordOf(heldChord(), 1), "0 0 1");
  }

  private static ChoraleDesk heldChord() {
    ChoraleDesk desk = new ChoraleDesk();
    Sentences.add(desk, 0, 42, 96);
    Sentences.add(desk, 1, 38, 16);
    Sentences.add(desk, 1, 39, 16);
    Sentences.add(desk, 2, 30, 96);
    return desk;
  }

  private static void noChord() {
    String none = "-1 -1 -1";
    Sentences.due("no note", Sentences.chordOf(Sentences.deskWith(0, -16), 0), none);
    Sentences.due("one class", Sentences.chordOf(chord(35, 0, 42, 0, 28, 0), 0), none);
    Sentences.due("two classes", Sentences.chordOf(chord(39, 0, 37, 0, 37, 0, 39, 0), 0), none);
    Sentences.due("four classes", Sentences.chordOf(chord(41, 0, 39, 0, 37, 0, 35, 0), 0), none);
    Sentences.due("C D E", Sentences.chordOf(chord(35, 0, 36, 0, 37, 0), 0), none);
    Sentences.due("C F G", Sentences.chordOf(chord(35, 0, 38, 0, 39, 0), 0), none);
    Sentences.due("C E F sharp", Sentences.chordOf(chord(35, 0, 37, 0, 38, 1), 0), none);
    Sentences.due("C E flat A flat and B", Sentences.chordOf(chord(35, 0, 37, -1, 40, -1, 41, 0), 0), none);
    ChoraleDesk ended = chord(35, 0, 37, 0, 39, 0);
    Sentences.add(ended, 0, 30, -16);
    Sentences.due("a chord whose notes have ended", Sentences.chordOf(ended, 1), none);
  }

  // ---- 6. Faults

  private static void orderOfFaults() {
    ChoraleDesk desk = new ChoraleDesk();
    for (int part = 0; part < 4; part++) {
      Sentences.add(desk, part, 1 + 7 * part, 16);
      Sentences.add(desk, part, 15 + 7 * part, 16);
      desk.setRange(part, 62, 62);
    }
    // D, D, D and D, each higher than the one ahead, all of them two octaves up, and out of their ranges.
    Sentences.due("faults", Sentences.faultsOf(desk),
        "2@0:1 2@0:2 2@0:3 2@0:6 2@0:7 2@0:11 4@0:0 4@0:1 4@0:2 4@0:3 "
        + "1@16:1 1@16:2 1@16:3 1@16:6 1@16:7 1@16:11 2@16:1 2@16:2 2@16:3 2@16:6 2@16:7 2@16:11 "
        + "3@16:0 4@16:0 3@16:1 4@16:1 3@16:2 4@16:2 3@16:3 4@16:3");
    ChoraleDesk mixed = new ChoraleDesk();
    int[] first = {39, 35, 28, 24};
    for (int part = 0; part < 4; part++) {
      Sentences.add(mixed, part, first[part], 16);
      Sentences.add(mixed, part, first[part] + 1, 16);
    }
    // G, C, C and F, all a step up: G over C and C over F are fifths.
    Sentences.due("fifths and octaves", Sentences.faultsOf(mixed), "0@16:1 0@16:2 1@16:6 0@16:7 0@16:11");
  }

  private static void numbersOfFaults() {
    ChoraleDesk desk = new ChoraleDesk();
    Sentences.refusedEach("kindOfFault", Sentences.INDEX, desk, Sentences.noneOf(0), (d, n) -> d.kindOfFault(n));
    Sentences.add(desk, 0, 35, 16, -16, 16);
    desk.setRange(0, 36, 36);
    Sentences.due("faults", Sentences.faultsOf(desk), "4@0:0 4@32:0");
    Sentences.refusedEach("kindOfFault", Sentences.INDEX, desk, Sentences.noneOf(2), (d, n) -> d.kindOfFault(n));
  }

  private static void fifths() {
    Sentences.due("up", faultsOfPair(39, 40, 35, 36), "0@16:6");
    Sentences.due("down", faultsOfPair(40, 39, 36, 35), "0@16:6");
    Sentences.due("7, then 19", faultsOfPair(39, 47, 35, 36), "0@16:6 3@16:1");
    Sentences.due("19 both times", faultsOfPair(46, 47, 35, 36), "0@16:6");
    Sentences.due("7, then 12", faultsOfPair(39, 43, 35, 36), "");
    Sentences.due("12, then 7", faultsOfPair(42, 43, 35, 39), "");
    Sentences.due("6 both times, then 7", faultsOfPair(38, 39, 34, 35), "");
    Sentences.due("both stay", faultsOfPair(39, 39, 35, 35), "");
    // 67 to 60 and 60 to 65: 7, then -5, which is 7, but one goes down and the other one up.
    Sentences.due("one down, one up", faultsOfPair(39, 35, 35, 38), "2@16:6");
    Sentences.due("one stays, a fifth over a fifth", faultsOfPair(39, 46, 35, 35), "");
    fifthsOfOtherPlaces();
    fifthsOverMoments();
  }

  private static void fifthsOfOtherPlaces() {
    // Other places, but the same heights.
    ChoraleDesk desk = new ChoraleDesk();
    desk.addNote(0, 39, 0, 16);
    desk.addNote(0, 40, -2, 16);
    desk.addNote(1, 35, 0, 16);
    desk.addNote(1, 36, -2, 16);
    Sentences.due("the same heights", Sentences.faultsOf(desk), "");
    // The same places, but other heights.
    desk.setPitch(0, 1, 39, 1);
    desk.setPitch(1, 1, 35, 1);
    Sentences.due("the same places", Sentences.faultsOf(desk), "0@16:1");
    desk.setPitch(0, 1, 39, -1);
    desk.setPitch(1, 1, 35, -1);
    Sentences.due("the same places, down", Sentences.faultsOf(desk), "0@16:1");
    desk.setPitch(1, 1, 35, -2);
    Sentences.due("a fifth too wide by 1", Sentences.faultsOf(desk), "");
    desk.setPitch(0, 1, 39, -2);
    desk.setPitch(1, 1, 35, -1);
    Sentences.due("a fifth too small by 1", Sentences.faultsOf(desk), "");
    ChoraleDesk least = new ChoraleDesk();
    least.addNote(0, 5, -1, 16);
    least.addNote(0, 4, 0, 16);
    least.addNote(1, 1, -1, 16);
    least.addNote(1, 1, -2, 16);
    Sentences.due("down to height 0", Sentences.faultsOf(least), "0@16:1");
  }

  private static void fifthsOverMoments() {
    ChoraleDesk first = chord(39, 0, 35, 0);
    Sentences.due("at the first moment", Sentences.faultsOf(first), "");
    ChoraleDesk rest = Sentences.deskWith(0, 16, -16);
    Sentences.add(rest, 0, 43, 16);
    Sentences.add(rest, 1, 31, 16, -16);
    Sentences.add(rest, 1, 39, 16);
    Sentences.due("behind a rest", Sentences.faultsOf(rest), "");
    // At tick 8 both still sound, and one of them is not the one right ahead at tick 0.
    ChoraleDesk between = Sentences.deskWith(1, 16);
    Sentences.add(between, 0, 38, 8);
    Sentences.add(between, 0, 39, 8);
    Sentences.add(between, 0, 40, 8);
    Sentences.add(between, 1, 36, 8);
    Sentences.due("at the moment right ahead", Sentences.faultsOf(between), "0@16:1");
    ChoraleDesk gone = Sentences.deskWith(1, 16);
    Sentences.add(gone, 0, 39, 8);
    Sentences.add(gone, 0, 38, 8);
    Sentences.add(gone, 0, 40, 8);
    Sentences.add(gone, 1, 36, 8);
    Sentences.due("not at the moment right ahead", Sentences.faultsOf(gone), "");
    ChoraleDesk held = Sentences.deskWith(1, 32);
    Sentences.add(held, 0, 39, 16);
    Sentences.add(held, 0, 46, 16);
    Sentences.due("one held", Sentences.faultsOf(held), "");
    ChoraleDesk third = Sentences.deskWith(1, 16);
    Sentences.add(third, 0, 39, 16);
    Sentences.add(third, 0, 40, 16);
    Sentences.add(third, 1, 36, 16);
    Sentences.add(third, 3, 22, 4, 4, 4, 4, 4);
    Sentences.due("with moments of a third part", Sentences.faultsOf(third), "0@16:1");
    ChoraleDesk away = Sentences.deskWith(1, 16);
    Sentences.add(away, 0, 39, 12);
    Sentences.add(away, 0, 39, -4);
    Sentences.add(away, 0, 40, 16);
    Sentences.add(away, 1, 36, 16);
    Sentences.due("one rests at the moment ahead", Sentences.faultsOf(away), "");
    ChoraleDesk ends = Sentences.deskWith(1, 16);
    Sentences.add(ends, 0, 39, 16);
    Sentences.add(ends, 1, 36, 16);
    Sentences.add(ends, 0, 39, -16);
    Sentences.due("one rests at this moment", Sentences.faultsOf(ends), "");
  }

  private static void octaves() {
    Sentences.due("up", faultsOfPair(42, 43, 35, 36), "1@16:6");
    Sentences.due("down", faultsOfPair(42, 41, 35, 34), "1@16:6");
    Sentences.due("one sound", faultsOfPair(35, 36, 35, 36), "1@16:6");
    Sentences.due("an octave, then one sound", faultsOfPair(36, 37, 29, 37), "1@16:6 3@16:2");
    Sentences.due("two octaves", faultsOfPair(49, 50, 35, 36), "1@16:6");
    Sentences.due("both stay", faultsOfPair(42, 42, 35, 35), "");
    Sentences.due("one up, one down", faultsOfPair(35, 42, 35, 28), "");
    Sentences.due("11 and 12", faultsOfPair(41, 43, 35, 36), "");
    Sentences.due("13 and 12", faultsOfPair(45, 46, 37, 39), "");
  }

  private static void crossings() {
    Sentences.due("the same height", Sentences.faultsOf(chord(35, 0, 35, 0)), "");
    Sentences.due("the same height, another place", Sentences.faultsOf(chord(35, 0, 34, 1)), "");
    Sentences.due("a height less by 1", Sentences.faultsOf(chord(34, 0, 35, 0)), "2@0:1");
    Sentences.due("a greater place, but a lesser height", Sentences.faultsOf(chord(36, -2, 34, 2)), "2@0:1");
    Sentences.due("a lesser place, but a greater height", Sentences.faultsOf(chord(34, 2, 36, -2)), "");
    Sentences.due("height 0 under another", Sentences.faultsOf(chord(1, -2, 1, -1)), "2@0:1");
    ChoraleDesk rest = Sentences.deskWith(0, -16);
    Sentences.add(rest, 1, 40, 16);
    Sentences.due("a rest over a note", Sentences.faultsOf(rest), "");
    ChoraleDesk under = Sentences.deskWith(0, 16);
    Sentences.add(under, 1, 40, -16);
    Sentences.due("a note over a rest", Sentences.faultsOf(under), "");
    ChoraleDesk held = Sentences.deskWith(0, 32);
    Sentences.add(held, 2, 36, 16, 16);
    Sentences.add(held, 3, 20, 4, 4, 4, 4);
    Sentences.due("only when one begins", Sentences.faultsOf(held), "2@0:2 2@16:2");
    ChoraleDesk above = Sentences.deskWith(0, 16, 16);
    Sentences.add(above, 2, 36, 32);
    Sentences.due("only when the other one begins", Sentences.faultsOf(above), "2@0:2 2@16:2");
    ChoraleDesk ended = Sentences.deskWith(0, 16);
    Sentences.add(ended, 1, 34, 16);
    Sentences.add(ended, 1, 36, 16);
    Sentences.due("one that has ended", Sentences.faultsOf(ended), "");
  }

  /** The faults of two notes of part 2, one behind the other. */
  private static String step(int place0, int alter0, int place1, int alter1) {
    ChoraleDesk desk = new ChoraleDesk();
    desk.addNote(2, place0, alter0, 16);
    desk.addNote(2, place1, alter1, 16);
    return Sentences.faultsOf(desk);
  }

  private static void leaps() {
    Sentences.due("12 up", step(35, 0, 42, 0), "");
    Sentences.due("13 up", step(35, 0, 42, 1), "3@16:2");
    Sentences.due("12 down", step(42, 0, 35, 0), "");
    Sentences.due("13 down", step(42, 0, 35, -1), "3@16:2");
    Sentences.due("more than 7 places, but 12", step(35, 0, 43, -2), "");
    Sentences.due("7 places, but 14", step(35, -1, 42, 1), "3@16:2");
    Sentences.due("all that there is", step(1, -2, 62, 2), "3@16:2");
    ChoraleDesk rest = Sentences.deskWith(2, 16, -4);
    Sentences.add(rest, 2, 50, 16);
    Sentences.due("over a rest", Sentences.faultsOf(rest), "");
    ChoraleDesk toRest = Sentences.deskWith(2, 16, -16);
    Sentences.due("to a rest", Sentences.faultsOf(toRest), "");
    ChoraleDesk first = new ChoraleDesk();
    Sentences.add(first, 2, 62, 16);
    Sentences.due("to the first note", Sentences.faultsOf(first), "");
    ChoraleDesk held = Sentences.deskWith(2, 8);
    Sentences.add(held, 2, 50, 16);
    Sentences.add(held, 3, 20, 4, 4, 4, 4);
    Sentences.due("only where it begins", Sentences.faultsOf(held), "3@8:2");
  }

  private static void ranges() {
    ChoraleDesk desk = new ChoraleDesk();
    int[] places = {29, 30, 35, 40, 41};
    for (int i = 0; i < places.length; i++) {
      desk.addNote(1, places[i], 0, 16);
      desk.addRest(1, 16);
    }
    Sentences.add(desk, 3, 1, 4, 4, 4);
    desk.setRange(1, 30, 40);
    Sentences.due("at and beside the bounds", Sentences.faultsOf(desk), "4@0:1 4@128:1");
    desk.setRange(1, 35, 35);
    Sentences.due("a range of one place", Sentences.faultsOf(desk), "4@0:1 4@32:1 4@96:1 4@128:1");
    desk.setRange(1, 29, 41);
    Sentences.due("a range of all of them", Sentences.faultsOf(desk), "");
    desk.setRange(1, 30, 40);
    desk.setPitch(1, 0, 30, -2);
    desk.setPitch(1, 8, 40, 2);
    Sentences.due("by places, not by heights", Sentences.faultsOf(desk), "");
    desk.setRange(0, 62, 62);
    Sentences.due("another part's range", Sentences.faultsOf(desk), "");
  }

  // ---- 7. Lines

  private static void endOfTheScore() {
    ChoraleDesk desk = new ChoraleDesk();
    Sentences.due("bars without events", desk.bars(), 0);
    desk.addRest(3, 4);
    Sentences.due("bars of a rest", desk.bars(), 1);
    desk.takeLast(3);
    Sentences.due("bars without events again", desk.bars(), 0);
    desk.addNote(3, 30, 0, 64);
    Sentences.due("bars of a note up to the bar line", desk.bars(), 1);
    desk.addRest(0, 64);
    desk.addRest(0, 4);
    Sentences.due("bars of an event behind the bar line", desk.bars(), 2);
    desk.setMetre(0, 1, 8);
    Sentences.due("bars of 68 ticks", desk.bars(), 9);
    desk.setMetre(0, 12, 2);
    Sentences.due("long bars of 68 ticks", desk.bars(), 1);
    ChoraleDesk behind = full();
    Sentences.due("bars of a full part", behind.bars(), 24);
    behind.setMetre(0, 1, 8);
    Sentences.due("bars of events behind them", behind.bars(), 24);
    ChoraleDesk last = Sentences.deskWith(0, 96, 64, 24);
    last.setMetre(0, 1, 8);
    Sentences.due("bars up to tick 184", last.bars(), 23);
    last.addRest(0, 4);
    Sentences.due("bars up to tick 188", last.bars(), 24);
  }

  private static int widthOf(int bar, int... values) {
    return Sentences.deskWith(0, values).widthOf(bar);
  }

  private static void widths() {
    int[][] empty = {
      {1, 8, 8}, {3, 8, 9}, {1, 4, 9}, {5, 8, 10}, {3, 4, 10}, {7, 8, 10}, {4, 4, 11}, {7, 4, 11}, {4, 2, 12},
      {7, 2, 12}, {8, 2, 13}, {12, 2, 13}
    };
    for (int i = 0; i < empty.length; i++) {
      ChoraleDesk desk = new ChoraleDesk();
      desk.setMetre(0, empty[i][0], empty[i][1]);
      Sentences.due("width of an empty bar of " + empty[i][0] + " and " + empty[i][1], desk.widthOf(23), empty[i][2]);
    }
    int[][] keys = {{0, 11}, {1, 12}, {4, 12}, {5, 13}, {7, 13}, {-1, 12}, {-4, 12}, {-5, 13}, {-7, 13}};
    for (int i = 0; i < keys.length; i++) {
      ChoraleDesk desk = new ChoraleDesk();
      desk.setKey(0, keys[i][0]);
      Sentences.due("width in key " + keys[i][0], desk.widthOf(0), keys[i][1]);
    }
    Sentences.due("an event at the begin", widthOf(0, 64, 64), 11);
    Sentences.due("an event of the bar ahead", widthOf(1, 96), 11);
    // 16 ticks, and 48 up to the end: 6 and 7.
    Sentences.due("an event behind the begin", widthOf(0, 16, 96), 16);
    Sentences.due("a rest behind the begin", widthOf(0, 16, -96), 16);
    Sentences.due("ticks of 4, 6, 8, 12 and 34", widthOf(0, 4, 6, 8, 12, 96), 3 + 4 + 4 + 5 + 5 + 7);
    ChoraleDesk desk = Sentences.deskWith(0, 4, 4);
    Sentences.add(desk, 1, 30, 6, 8);
    Sentences.due("2 ticks between two parts", desk.widthOf(0), 3 + 4 + 3 + 7);
    Sentences.add(desk, 2, 29, 4, 4);
    Sentences.due("one tick in two parts", desk.widthOf(0), 3 + 4 + 3 + 7);
    ChoraleDesk stranded = Sentences.deskWith(0, 96, 64, 32, 8, 8);
    stranded.setMetre(0, 1, 8);
    Sentences.due("the last bar, events behind it", stranded.widthOf(23), 8);
    stranded.setMetre(23, 2, 8);
    Sentences.due("the last bar, an event in it and one at its end", stranded.widthOf(23), 3 + 5 + 5);
    stranded.setMetre(23, 3, 8);
    Sentences.due("the last bar, more events in it", stranded.widthOf(23), 3 + 5 + 5 + 5);
  }

  private static ChoraleDesk restsFor(int bars, int key) {
    ChoraleDesk desk = new ChoraleDesk();
    desk.setKey(0, key);
    for (int bar = 0; bar < bars; bar++) {
      desk.addRest(2, 64);
    }
    return desk;
  }

  private static void costs() {
    ChoraleDesk one = restsFor(1, 0);
    Sentences.due("one bar, too wide by 1", Sentences.linesOf(one, 10), "0, 1 for 1");
    Sentences.due("one bar, just as wide", Sentences.linesOf(one, 11), "0, 1 for 0");
    Sentences.due("one bar, less wide", Sentences.linesOf(one, 12), "0, 1 for 0");
    ChoraleDesk desk = restsFor(3, 0);
    Sentences.due("three bars in 10", Sentences.linesOf(desk, 10), "0 1 2, 3 for 3");
    Sentences.due("three bars in 11", Sentences.linesOf(desk, 11), "0 1 2, 3 for 0");
    Sentences.due("three bars in 12", Sentences.linesOf(desk, 12), "0 1 2, 3 for 2");
    Sentences.due("three bars in 16", Sentences.linesOf(desk, 16), "0 0 1, 2 for 36");
    Sentences.due("three bars in 17", Sentences.linesOf(desk, 17), "0 0 1, 2 for 25");
    Sentences.due("three bars in 22", Sentences.linesOf(desk, 22), "0 0 1, 2 for 0");
    Sentences.due("three bars in 32", Sentences.linesOf(desk, 32), "0 0 0, 1 for 1");
    Sentences.due("three bars in 33", Sentences.linesOf(desk, 33), "0 0 0, 1 for 0");
    Sentences.due("three bars in 400", Sentences.linesOf(desk, 400), "0 0 0, 1 for 0");
    Sentences.due("no bars", Sentences.linesOf(new ChoraleDesk(), 10), ", 0 for 0");
    Sentences.due("all bars", Sentences.linesOf(restsFor(24, 0), 88),
        "0 0 0 0 0 0 0 0 1 1 1 1 1 1 1 1 2 2 2 2 2 2 2 2, 3 for 0");
  }

  private static void bestWays() {
    // Bars 12 wide: one is 6 less than 18, two are 6 more. 4 bars as 2 2, 2 1 1 and 1 2 1 cost 72.
    Sentences.due("four bars in 18", Sentences.linesOf(restsFor(4, 1), 18), "0 0 1 1, 2 for 72");
    Sentences.due("six bars in 18", Sentences.linesOf(restsFor(6, 1), 18), "0 0 1 1 2 2, 3 for 108");
    // Two are 6 less than 30, three are 6 more. 7 bars as 3 3 1, 3 2 2 and 2 3 2 cost 72.
    Sentences.due("six bars in 30", Sentences.linesOf(restsFor(6, 1), 30), "0 0 0 1 1 1, 2 for 72");
    Sentences.due("seven bars in 30", Sentences.linesOf(restsFor(7, 1), 30), "0 0 0 1 1 1 2, 3 for 72");
    // Less is better than more bars in the first line.
    Sentences.due("three bars in 12", Sentences.linesOf(restsFor(3, 1), 12), "0 1 2, 3 for 0");
    Sentences.due("five bars in 27", Sentences.linesOf(restsFor(5, 0), 27), "0 0 0 1 1, 2 for 36");
  }

  // ---- exceptions

  private static void refusedCallsChangeNothing() {
    ChoraleDesk desk = Sentences.rich();
    int end = desk.events(0);
    Sentences.refused("addNote", Sentences.INDEX, desk, d -> d.addNote(4, 30, 0, 16));
    Sentences.refused("addNote", Sentences.ARGUMENT, desk, d -> d.addNote(0, 30, 0, 17));
    Sentences.refused("addRest", Sentences.ARGUMENT, desk, d -> d.addRest(0, 17));
    Sentences.refused("takeLast", Sentences.INDEX, desk, d -> d.takeLast(4));
    Sentences.refused("setPitch", Sentences.INDEX, desk, d -> d.setPitch(0, end, 30, 0));
    Sentences.refused("setPitch", Sentences.ARGUMENT, desk, d -> d.setPitch(0, 0, 30, 3));
    Sentences.refused("setPitch of a rest", Sentences.STATE, desk, d -> d.setPitch(0, 10, 30, 0));
    Sentences.refused("setMetre", Sentences.ARGUMENT, desk, d -> d.setMetre(0, 5, 3));
    Sentences.refused("setMetre", Sentences.ARGUMENT, desk, d -> d.setMetre(0, 13, 8));
    Sentences.refused("setKey", Sentences.ARGUMENT, desk, d -> d.setKey(0, 8));
    Sentences.refused("setRange, the lowest right", Sentences.ARGUMENT, desk, d -> d.setRange(0, 1, 63));
    Sentences.refused("setRange, the highest right", Sentences.ARGUMENT, desk, d -> d.setRange(0, 0, 62));
    Sentences.refused("setShift, the fifths right", Sentences.ARGUMENT, desk, d -> d.setShift(0, 1, 3));
    Sentences.refused("setShift, the octaves right", Sentences.ARGUMENT, desk, d -> d.setShift(0, 7, 1));
    Sentences.refused("faultsIfUp of a rest", Sentences.STATE, desk, d -> d.faultsIfUp(0, 10));
    Sentences.due("addNote afterwards", desk.addNote(0, 30, 0, 16), end);
  }

  private static void firstNamedException() {
    ChoraleDesk desk = full();
    desk.addRest(0, 16);
    int index = Sentences.INDEX;
    int argument = Sentences.ARGUMENT;
    Sentences.refused("addNote, all wrong", index, desk, d -> d.addNote(4, 0, 3, 5));
    Sentences.refused("addNote, no part, no value", index, desk, d -> d.addNote(-1, 30, 0, 5));
    Sentences.refused("addNote, no place, no room", argument, desk, d -> d.addNote(1, 63, 0, 4));
    Sentences.refused("addNote, no alter, no room", argument, desk, d -> d.addNote(1, 30, 3, 4));
    Sentences.refused("addNote, no value, no room", argument, desk, d -> d.addNote(1, 30, 0, 5));
    Sentences.refused("addRest, no part, no value", index, desk, d -> d.addRest(4, 5));
    Sentences.refused("addRest, no value, no room", argument, desk, d -> d.addRest(1, 5));
    Sentences.refused("setPitch, no part, no place", index, desk, d -> d.setPitch(4, 0, 0, 0));
    Sentences.refused("setPitch, no event, no place", index, desk, d -> d.setPitch(0, 1, 0, 0));
    Sentences.refused("setPitch, no event, no alter", index, desk, d -> d.setPitch(0, -1, 30, 3));
    Sentences.refused("setPitch, no place, a rest", argument, desk, d -> d.setPitch(0, 0, 63, 0));
    Sentences.refused("setPitch, no alter, a rest", argument, desk, d -> d.setPitch(0, 0, 30, -3));
    Sentences.refused("setMetre, no bar, no beats", index, desk, d -> d.setMetre(24, 0, 4));
    Sentences.refused("setMetre, no bar, no unit", index, desk, d -> d.setMetre(-1, 4, 3));
    Sentences.refused("setKey, no bar, no key", index, desk, d -> d.setKey(24, 8));
    Sentences.refused("setRange, no part, no range", index, desk, d -> d.setRange(4, 0, 63));
    Sentences.refused("setShift, no part, no fifths", index, desk, d -> d.setShift(-1, 7, 0));
    Sentences.refused("setShift, no part, no octaves", index, desk, d -> d.setShift(4, 0, 3));
    Sentences.refused("lineOf, no bar, no width", index, desk, d -> d.lineOf(9, 24));
    Sentences.refused("lineOf, no bar, no width", index, desk, d -> d.lineOf(401, -1));
  }

  private static void pitches() {
    Sentences.tells("All numbers are whole, if nothing else is said; / is cut towards 0. a // b is cut downwards, and "
        + "a % b is what that leaves (0 to b - 1).", TermTests::wholeNumbers);
    Sentences.tells("A pitch has a place and an alter (-2 to 2).", TermTests::alters);
    Sentences.tells("The place is 7 * octave + step, 1 to 62, with the steps 0 (C) to 6 (B).", TermTests::places);
    Sentences.tells("Its height is 12 * octave + s + alter, where s is 0, 2, 4, 5, 7, 9, 11 for the steps 0 to 6; its "
        + "class is its height % 12.", TermTests::heights);
    Sentences.tells("A key is -7 to 7: so many sharps, or (less than 0) flats.", TermTests::keys);
    Sentences.tells("Sharps alter the steps 3, 0, 4, 1, 5, 2, 6 by 1, in this order, as many as there are; flats the "
        + "steps 6, 2, 5, 1, 4, 0, 3 by -1.", TermTests::sharpsAndFlats);
  }

  private static void time() {
    Sentences.tells("Time goes by ticks; a whole note has 64.", TermTests::wholeNote);
    Sentences.tells("There are 24 bars, numbered from 0.", TermTests::bars);
    Sentences.tells("A bar has a metre: beats, 1 to 12, and a unit, 2, 4 or 8; its length is beats * 64 / unit; at "
        + "first 4 and 4.", TermTests::metres);
    Sentences.tells("It has a key, at first 0.", TermTests::keyAtFirst);
    Sentences.tells("A value is 64, 32, 16, 8 or 4 (plain), or 96, 48, 24, 12 or 6 (dotted).", TermTests::values);
    Sentences.tells("There are 4 parts, numbered from 0, the highest one first.", TermTests::parts);
    Sentences.tells("A part has a row of events, at first empty.", TermTests::emptyRows);
    Sentences.tells("An event is a note (with a pitch) or a rest, and has a value as its length.",
        TermTests::notesAndRests);
    Sentences.tells("The first one begins at tick 0, each next one where the one ahead of it ends.", TermTests::begins);
    Sentences.tells("All events of a part end at the end of bar 23 or ahead of it, by the metres as they are when one "
        + "is added; later changes of metres move the bars, not the events: what lies behind the end of bar 23 then "
        + "is in no bar.", TermTests::endOfTheBars);
    Sentences.tells("A part has a lowest and a highest place (at first 1 and 62), and a shift (section 4; at first 0 "
        + "fifths and 0 octaves).", TermTests::rangeAndShiftAtFirst);
  }

  private static void writing() {
    Sentences.tells("An event is written in bars: the ticks of it that lie in a bar are its stretch there.",
        TermTests::stretchesInBars);
    Sentences.tells("A stretch is written as signs, one behind another: each time the greatest value that is no "
        + "greater than what is left of it (also if it lies over beats); what is left at last, less than 4 ticks, is "
        + "one sign of that length.", TermTests::signsOfStretches);
    Sentences.tells("(So 64 + 16 is 64 and 16; 40 is 32 and 8; 20 is 16 and 4; 5 is 4 and 1.)",
        TermTests::examplesOfStretches);
    Sentences.tells("The signs of a part in a bar are numbered from 0, in order.", TermTests::numbersOfSigns);
    Sentences.tells("A sign of a note is tied if another sign of the same note follows it, in this bar or the next "
        + "one.", TermTests::ties);
    Sentences.tells("Beams. The group of a sign is (its tick - that of the bar's begin) / g, where g is 24, if the "
        + "unit is 8 and the beats are 3, 6, 9 or 12, and otherwise 32 for the unit 2, and 16 for 4 and 8.",
        TermTests::groups);
    Sentences.tells("A sign is short if it is of a note, and its length is 12 or less.", TermTests::shortSigns);
    Sentences.tells("A beam is a row of two or more short signs, one right behind the other in the bar, that are all "
        + "of the same group, as long as can be.", TermTests::rowsOfShortSigns);
    Sentences.tells("Accidentals. For each part and bar there is for each place an alter in force: at first that of "
        + "the key of the bar for its step.", TermTests::altersInForce);
    Sentences.tells("A sign of a note that is not a tied one's follower (that is: the first sign of the note) shows "
        + "its alter, if this is not the one in force at its place; then it is in force there, for the rest of the "
        + "bar.", TermTests::firstSigns);
    Sentences.tells("Signs that follow a tied one show none, and change nothing.", TermTests::followers);
  }

  private static void writingForInstruments() {
    Sentences.tells("A shift is -6 to 6 fifths and -2 to 2 octaves.", TermTests::shifts);
    Sentences.tells("The written pitch of a note has the place of the note + 4 * fifths + 7 * octaves, and the alter "
        + "with which its height is greater by 7 * fifths + 12 * octaves.", TermTests::writtenPitches);
    Sentences.tells("If that alter is not -2 to 2, or the place is not 1 to 62, it has no written pitch.",
        TermTests::noWrittenPitch);
    Sentences.tells("The written key of a bar is its key + fifths; if that is more than 7, 12 less, if it is less "
        + "than -7, 12 more.", TermTests::writtenKeys);
    Sentences.tells("Accidentals of section 3 are those of the notes as they sound; shownWritten() asks for those of "
        + "written pitches, with the written keys, likewise (a note without a written pitch shows none, and changes "
        + "nothing).", TermTests::shownAsWritten);
  }

  private static void sounding() {
    Sentences.tells("A moment is a tick at which in some part an event begins.", TermTests::moments);
    Sentences.tells("Moments are numbered from 0, as they come.", TermTests::numbersOfMoments);
    Sentences.tells("What sounds at a moment are the notes of all parts that begin there or ahead of it, and end "
        + "behind it.", TermTests::sounds);
    Sentences.tells("The chord of a moment is told by the classes that sound, each once: if they are just three, "
        + "there can be one class r among them with which the others are (r + 4) % 12 and (r + 7) % 12 (kind 0, "
        + "major), or + 3 and + 7 (1, minor), or + 3 and + 6 (2, diminished), or + 4 and + 8 (3, augmented: r is then "
        + "the class of the lowest sounding note).", TermTests::chords);
    Sentences.tells("Then it is the chord of root r and of that kind; otherwise there is none.", TermTests::noChord);
  }

  private static void faulting() {
    Sentences.tells("Faults are looked for moment by moment; at each of them first those of kind 0 and 1, pair of "
        + "parts by pair of parts (p ahead of q, p < q, by p, then by q), of a pair 0 ahead of 1; then those of kind "
        + "2, pair by pair likewise; then those of kinds 3 and 4, part by part, of a part 3 ahead of 4.",
        TermTests::orderOfFaults);
    Sentences.tells("They are numbered from 0 in this order.", TermTests::numbersOfFaults);
    Sentences.tells("0, fifths: at the moment ahead of it and at this one both parts have notes that sound; both "
        + "parts' notes begin at this moment, and have other heights than those that sounded ahead of it, both "
        + "greater or both less; and the difference of the heights (that of p less that of q) % 12 is 7 both times.",
        TermTests::fifths);
    Sentences.tells("1, octaves: likewise with 0 both times.", TermTests::octaves);
    Sentences.tells("2, crossing: both parts have notes that sound, at least one of which begins at this moment, and "
        + "that of p has a lesser height than that of q.", TermTests::crossings);
    Sentences.tells("3, leap: a note of the part begins at this moment, the event right ahead of it in the part is a "
        + "note, too, and their heights are more than 12 apart.", TermTests::leaps);
    Sentences.tells("4, range: a note of the part begins at this moment whose place is less than the lowest or more "
        + "than the highest one of the part.", TermTests::ranges);
  }

  private static void breaking() {
    Sentences.tells("The score ends behind the last bar in which an event has a stretch; without events it has no "
        + "bars.", TermTests::endOfTheScore);
    Sentences.tells("The width of a bar is 3, and 1 for each 4 sharps or flats of its key or part of 4, and for each "
        + "different tick in the bar (its begin not counted) at which an event of any part begins, and for its begin: "
        + "2, and the k with 2^k <= d < 2^(k+1), where d are the ticks up to the next such tick, or to the end of the "
        + "bar.", TermTests::widths);
    Sentences.tells("A way of breaking the bars of the score into lines of a width W: each line has one bar or more, "
        + "in order; its cost is 0 if it is the last line and its bars are no wider together than W; otherwise the "
        + "square of the difference of W and the width of its bars together.", TermTests::costs);
    Sentences.tells("The best way is the one with the least cost in all; of several the one whose first line has the "
        + "most bars, of several of these the one whose second line has, and so on.", TermTests::bestWays);
    Sentences.tells("A method that throws an exception changes nothing.", TermTests::refusedCallsChangeNothing);
    Sentences.tells("If several exceptions apply, the one that is named first is thrown.",
        TermTests::firstNamedException);
  }

  public static void main(String[] args) throws IOException {
    Sentences.readTerms();
    pitches();
    time();
    writing();
    writingForInstruments();
    sounding();
    faulting();
    breaking();
    Sentences.end("all terms hold");
  }
}
