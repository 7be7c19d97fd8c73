import java.util.Arrays;

/** A desk for writing chorales. */
public final class ChoraleDesk {
  private static final int PARTS = 4;
  private static final int BARS = 24;
  private static final int MOST_EVENTS = 512;
  private static final int MOST_FAULTS = 5 * MOST_EVENTS;
  private static final int MOST_SIGNS = 128;
  private static final int HIGHEST_PLACE = 62;
  private static final int STEPS = 7;
  private static final int CLASSES = 12;
  private static final int NONE = -1;
  private static final int NO_ALTER = -3;
  private static final int REST = 0;

  private final Part[] parts;
  private final Calendar calendar;
  private final Measure measure;
  private final Harmony harmony;
  private final Chord chord;
  private final FaultList faultList;
  private final LineBreaks breaks;

  private boolean heard;
  private boolean searched;
  private boolean widthsKnown;
  private int laidPart;
  private int laidBar;

  public ChoraleDesk() {
    parts = new Part[PARTS];
    for (int part = 0; part < parts.length; part++) {
      parts[part] = new Part();
    }
    calendar = new Calendar();
    measure = new Measure();
    harmony = new Harmony();
    chord = new Chord();
    faultList = new FaultList();
    breaks = new LineBreaks();
    heard = false;
    searched = false;
    widthsKnown = false;
    laidPart = NONE;
    laidBar = NONE;
  }

  // ---- writing

  public int addNote(int part, int place, int alter, int value)
      throws IndexOutOfBoundsException, IllegalArgumentException, IllegalStateException {
    Part written = partAt(part);
    checkPitch(place, alter);
    checkValue(value);
    checkRoom(written, value);
    forgetWhatFollows();
    return written.append(place, alter, value);
  }

  public int addRest(int part, int value)
      throws IndexOutOfBoundsException, IllegalArgumentException, IllegalStateException {
    Part written = partAt(part);
    checkValue(value);
    checkRoom(written, value);
    forgetWhatFollows();
    return written.append(REST, 0, value);
  }

  public int takeLast(int part) throws IndexOutOfBoundsException, IllegalStateException {
    Part written = partAt(part);
    if (written.size() == 0) {
      throw new IllegalStateException("the part has no event");
    }
    forgetWhatFollows();
    return written.removeLast();
  }

  public int setPitch(int part, int event, int place, int alter)
      throws IndexOutOfBoundsException, IllegalArgumentException, IllegalStateException {
    Part written = partWith(part, event);
    checkPitch(place, alter);
    checkNote(written, event);
    int before = written.heightAt(event);
    forgetWhatFollows();
    written.givePitch(event, place, alter);
    return before;
  }

  public int setMetre(int bar, int beats, int unit)
      throws IndexOutOfBoundsException, IllegalArgumentException {
    checkBar(bar);
    if (beats < 1 || beats > 12 || (unit != 2 && unit != 4 && unit != 8)) {
      throw new IllegalArgumentException("no such metre");
    }
    forgetWhatFollows();
    calendar.changeMetre(bar, beats, unit);
    return calendar.lengthAt(bar);
  }

  public int setKey(int bar, int key) throws IndexOutOfBoundsException, IllegalArgumentException {
    checkBar(bar);
    checkKey(key);
    int before = calendar.keyAt(bar);
    forgetWhatFollows();
    calendar.changeKey(bar, key);
    return before;
  }

  public int setRange(int part, int lowest, int highest)
      throws IndexOutOfBoundsException, IllegalArgumentException {
    Part written = partAt(part);
    if (lowest < 1 || lowest > HIGHEST_PLACE || highest < lowest || highest > HIGHEST_PLACE) {
      throw new IllegalArgumentException("no such range");
    }
    forgetWhatFollows();
    written.changeRange(lowest, highest);
    return written.notesOutOfRange();
  }

  public int setShift(int part, int fifths, int octaves)
      throws IndexOutOfBoundsException, IllegalArgumentException {
    Part written = partAt(part);
    if (fifths < -6 || fifths > 6 || octaves < -2 || octaves > 2) {
      throw new IllegalArgumentException("no such shift");
    }
    forgetWhatFollows();
    written.changeShift(fifths, octaves);
    return written.notesWithoutWrittenPitch();
  }

  // ---- events and pitches

  public int events(int part) throws IndexOutOfBoundsException {
    return partAt(part).size();
  }

  public int beginOf(int part, int event) throws IndexOutOfBoundsException {
    return partWith(part, event).beginAt(event);
  }

  public int heightOf(int part, int event) throws IndexOutOfBoundsException {
    return partWith(part, event).heightAt(event);
  }

  public int barOf(int part, int event) throws IndexOutOfBoundsException {
    return calendar.barAt(partWith(part, event).beginAt(event));
  }

  public int writtenPlace(int part, int event) throws IndexOutOfBoundsException {
    return partWith(part, event).writtenPlaceAt(event);
  }

  public int writtenAlter(int part, int event) throws IndexOutOfBoundsException {
    return partWith(part, event).writtenAlterAt(event);
  }

  public int alterIn(int key, int step) throws IllegalArgumentException {
    checkKey(key);
    if (step < 0 || step >= STEPS) {
      throw new IllegalArgumentException("no such step");
    }
    return Scale.alterByKey(key, step);
  }

  public int writtenKey(int part, int bar) throws IndexOutOfBoundsException {
    Part written = partAt(part);
    checkBar(bar);
    return written.keyAsWritten(calendar.keyAt(bar));
  }

  // ---- bars and signs

  public int beginOfBar(int bar) throws IndexOutOfBoundsException {
    checkBar(bar);
    return calendar.beginAt(bar);
  }

  public int lengthOfBar(int bar) throws IndexOutOfBoundsException {
    checkBar(bar);
    return calendar.lengthAt(bar);
  }

  public int signs(int part, int bar) throws IndexOutOfBoundsException {
    return measureAt(part, bar).size();
  }

  public int eventOf(int part, int bar, int sign) throws IndexOutOfBoundsException {
    return measureWith(part, bar, sign).eventAt(sign);
  }

  public int lengthOf(int part, int bar, int sign) throws IndexOutOfBoundsException {
    return measureWith(part, bar, sign).lengthAt(sign);
  }

  public boolean isTied(int part, int bar, int sign) throws IndexOutOfBoundsException {
    return measureWith(part, bar, sign).tiedAt(sign);
  }

  public int shown(int part, int bar, int sign) throws IndexOutOfBoundsException {
    return measureWith(part, bar, sign).shownAt(sign);
  }

  public int shownWritten(int part, int bar, int sign) throws IndexOutOfBoundsException {
    return measureWith(part, bar, sign).shownAsWrittenAt(sign);
  }

  public int beams(int part, int bar) throws IndexOutOfBoundsException {
    return measureAt(part, bar).beamTotal();
  }

  public int beamOf(int part, int bar, int sign) throws IndexOutOfBoundsException {
    return measureWith(part, bar, sign).beamAt(sign);
  }

  public int missing(int part, int bar) throws IndexOutOfBoundsException {
    Part written = partAt(part);
    checkBar(bar);
    return calendar.ticksBehind(written.end(), bar);
  }

  // ---- what sounds, and faults

  public int moments() {
    hear();
    return harmony.size();
  }

  public int tickOf(int moment) throws IndexOutOfBoundsException {
    checkMoment(moment);
    return harmony.tickAt(moment);
  }

  public int sounds(int moment, int part) throws IndexOutOfBoundsException {
    checkMoment(moment);
    return partAt(part).heightAt(harmony.eventAt(moment, part));
  }

  public int root(int moment) throws IndexOutOfBoundsException {
    checkMoment(moment);
    return chordAt(moment).rootClass();
  }

  public int kind(int moment) throws IndexOutOfBoundsException {
    checkMoment(moment);
    return chordAt(moment).kindNumber();
  }

  public int inversion(int moment) throws IndexOutOfBoundsException {
    checkMoment(moment);
    return chordAt(moment).lowestTone();
  }

  public int faults() {
    searchFaults();
    return faultList.size();
  }

  public int kindOfFault(int fault) throws IndexOutOfBoundsException {
    searchFaults();
    checkFault(fault);
    return faultList.kindAt(fault);
  }

  public int tickOfFault(int fault) throws IndexOutOfBoundsException {
    searchFaults();
    checkFault(fault);
    return faultList.tickAt(fault);
  }

  public int partsOfFault(int fault) throws IndexOutOfBoundsException {
    searchFaults();
    checkFault(fault);
    return faultList.partsAt(fault);
  }

  public int faultsIfUp(int part, int event)
      throws IndexOutOfBoundsException, IllegalStateException {
    Part written = partWith(part, event);
    checkNote(written, event);
    int place = written.placeAt(event);
    int alter = written.alterAt(event);
    if (place + STEPS > HIGHEST_PLACE) {
      return NONE;
    }
    hear();
    written.givePitch(event, place + STEPS, alter);
    faultList.search(parts, harmony);
    written.givePitch(event, place, alter);
    // The list now tells of the raised note, which is not there any more.
    searched = false;
    return faultList.size();
  }

  // ---- lines

  public int bars() {
    return calendar.barsUpTo(lastEnd());
  }

  public int widthOf(int bar) throws IndexOutOfBoundsException {
    checkBar(bar);
    measureWidths();
    return breaks.widthAt(bar);
  }

  public int lines(int width) throws IllegalArgumentException {
    checkWidth(width);
    measureWidths();
    breakLines(width);
    return breaks.size();
  }

  public int lineOf(int width, int bar) throws IndexOutOfBoundsException, IllegalArgumentException {
    checkBar(bar);
    checkWidth(width);
    measureWidths();
    breakLines(width);
    return breaks.lineAt(bar);
  }

  public int costOf(int width) throws IllegalArgumentException {
    checkWidth(width);
    measureWidths();
    breakLines(width);
    return breaks.leastCost();
  }

  public double meanHeight() {
    int sum = 0;
    int notes = 0;
    for (int part = 0; part < parts.length; part++) {
      sum += parts[part].sumOfHeights();
      notes += parts[part].notes();
    }
    return notes > 0 ? (double) sum / (double) notes : 0.0;
  }

  public long digest() {
    measureWidths();
    searchFaults();
    long d = 2467;
    for (int part = 0; part < parts.length; part++) {
      d = mixPart(d, parts[part]);
    }
    for (int bar = 0; bar < BARS; bar++) {
      d = mixBar(d, bar);
    }
    d = mixMoments(d);
    d = mixFaults(d);
    d = mix(d, bars());
    d = mixLines(d, 40);
    return mixLines(d, 100);
  }

  // ---- the checksum, piece by piece

  private static long mix(long d, long value) {
    return d * 31 + value;
  }

  private long mixPart(long d, Part part) {
    d = mix(d, part.size());
    for (int event = 0; event < part.size(); event++) {
      d = mix(d, part.beginAt(event));
      d = mix(d, part.heightAt(event));
      d = mix(d, calendar.barAt(part.beginAt(event)));
      d = mix(d, part.writtenPlaceAt(event));
      d = mix(d, part.writtenAlterAt(event));
    }
    return d;
  }

  private long mixBar(long d, int bar) {
    d = mix(d, calendar.beginAt(bar));
    d = mix(d, calendar.lengthAt(bar));
    d = mix(d, breaks.widthAt(bar));
    for (int part = 0; part < parts.length; part++) {
      Measure written = measureAt(part, bar);
      d = mix(d, written.size());
      d = mix(d, written.beamTotal());
      d = mix(d, calendar.ticksBehind(parts[part].end(), bar));
      d = mix(d, parts[part].keyAsWritten(calendar.keyAt(bar)));
      d = mixSigns(d, written);
    }
    return d;
  }

  private long mixSigns(long d, Measure written) {
    for (int sign = 0; sign < written.size(); sign++) {
      d = mix(d, written.eventAt(sign));
      d = mix(d, written.lengthAt(sign));
      d = mix(d, written.tiedAt(sign) ? 1 : 0);
      d = mix(d, written.shownAt(sign));
      d = mix(d, written.shownAsWrittenAt(sign));
      d = mix(d, written.beamAt(sign));
    }
    return d;
  }

  private long mixMoments(long d) {
    d = mix(d, harmony.size());
    for (int moment = 0; moment < harmony.size(); moment++) {
      d = mix(d, harmony.tickAt(moment));
      for (int part = 0; part < parts.length; part++) {
        d = mix(d, parts[part].heightAt(harmony.eventAt(moment, part)));
      }
      Chord told = chordAt(moment);
      d = mix(d, told.rootClass());
      d = mix(d, told.kindNumber());
      d = mix(d, told.lowestTone());
    }
    return d;
  }

  private long mixFaults(long d) {
    d = mix(d, faultList.size());
    for (int fault = 0; fault < faultList.size(); fault++) {
      d = mix(d, faultList.kindAt(fault));
      d = mix(d, faultList.tickAt(fault));
      d = mix(d, faultList.partsAt(fault));
    }
    return d;
  }

  private long mixLines(long d, int width) {
    breakLines(width);
    d = mix(d, breaks.size());
    return mix(d, breaks.leastCost());
  }

  // ---- what follows from the writing is worked out when it is asked for, and kept until the next writing

  private void forgetWhatFollows() {
    heard = false;
    searched = false;
    widthsKnown = false;
    laidPart = NONE;
    laidBar = NONE;
  }

  private void hear() {
    if (!heard) {
      harmony.listen(parts);
      heard = true;
    }
  }

  private void searchFaults() {
    hear();
    if (!searched) {
      faultList.search(parts, harmony);
      searched = true;
    }
  }

  private void measureWidths() {
    hear();
    if (!widthsKnown) {
      breaks.measureWidths(calendar, harmony);
      widthsKnown = true;
    }
  }

  private void breakLines(int width) {
    breaks.breakUp(calendar.barsUpTo(lastEnd()), width);
  }

  private int lastEnd() {
    int last = 0;
    for (int part = 0; part < parts.length; part++) {
      last = Math.max(last, parts[part].end());
    }
    return last;
  }

  private int allEvents() {
    int sum = 0;
    for (int part = 0; part < parts.length; part++) {
      sum += parts[part].size();
    }
    return sum;
  }

  // ---- tests of what a call names

  private Part partAt(int part) {
    if (part < 0 || part >= parts.length) {
      throw new IndexOutOfBoundsException("no such part");
    }
    return parts[part];
  }

  private Part partWith(int part, int event) {
    Part written = partAt(part);
    if (!written.has(event)) {
      throw new IndexOutOfBoundsException("no such event");
    }
    return written;
  }

  private Measure measureAt(int part, int bar) {
    Part written = partAt(part);
    checkBar(bar);
    if (part != laidPart || bar != laidBar) {
      measure.write(written, calendar, bar);
      laidPart = part;
      laidBar = bar;
    }
    return measure;
  }

  private Measure measureWith(int part, int bar, int sign) {
    Measure written = measureAt(part, bar);
    if (!written.has(sign)) {
      throw new IndexOutOfBoundsException("no such sign");
    }
    return written;
  }

  private Chord chordAt(int moment) {
    chord.tell(parts, harmony, moment);
    return chord;
  }

  private void checkMoment(int moment) {
    hear();
    if (!harmony.has(moment)) {
      throw new IndexOutOfBoundsException("no such moment");
    }
  }

  private void checkFault(int fault) {
    if (!faultList.has(fault)) {
      throw new IndexOutOfBoundsException("no such fault");
    }
  }

  private void checkRoom(Part part, int value) {
    // An object serves 512 calls, so that more events than these can't be due.
    if (allEvents() >= MOST_EVENTS || part.end() + value > calendar.end()) {
      throw new IllegalStateException("it would end behind the end of the last bar");
    }
  }

  private static void checkNote(Part part, int event) {
    if (!part.isNote(event)) {
      throw new IllegalStateException("the event is a rest");
    }
  }

  private static void checkBar(int bar) {
    if (bar < 0 || bar >= BARS) {
      throw new IndexOutOfBoundsException("no such bar");
    }
  }

  private static void checkPitch(int place, int alter) {
    if (!Scale.isPitch(place, alter)) {
      throw new IllegalArgumentException("no such pitch");
    }
  }

  private static void checkValue(int value) {
    if (!Values.isValue(value)) {
      throw new IllegalArgumentException("no such value");
    }
  }

  private static void checkKey(int key) {
    if (key < -7 || key > 7) {
      throw new IllegalArgumentException("no such key");
    }
  }

  private static void checkWidth(int width) {
    if (width < 10 || width > 400) {
      throw new IllegalArgumentException("no such width");
    }
  }

  /** Places, alters and heights. */
  private static final class Scale {
    private static final int[] HEIGHTS = {0, 2, 4, 5, 7, 9, 11};
    private static final int[] TURNS_AS_SHARP = {1, 3, 5, 0, 2, 4, 6};

    static boolean isPitch(int place, int alter) {
      return place >= 1 && place <= HIGHEST_PLACE && alter >= -2 && alter <= 2;
    }

    static int plainHeight(int place) {
      int step = Math.floorMod(place, STEPS);
      int above = step >= 0 && step < HEIGHTS.length ? HEIGHTS[step] : 0;
      return CLASSES * Math.floorDiv(place, STEPS) + above;
    }

    static int alterByKey(int key, int step) {
      if (step < 0 || step >= TURNS_AS_SHARP.length) {
        return 0;
      }
      int turn = TURNS_AS_SHARP[step];
      if (key > turn) {
        return 1;
      }
      // Flats take the steps in the opposite order.
      return -key > STEPS - 1 - turn ? -1 : 0;
    }
  }

  /** The lengths that events can have, and the ones that signs are written with. */
  private static final class Values {
    private static final int[] FALLING = {96, 64, 48, 32, 24, 16, 12, 8, 6, 4};

    static boolean isValue(int value) {
      for (int i = 0; i < FALLING.length; i++) {
        if (FALLING[i] == value) {
          return true;
        }
      }
      return false;
    }

    static int greatestIn(int ticks) {
      for (int i = 0; i < FALLING.length; i++) {
        if (FALLING[i] <= ticks) {
          return FALLING[i];
        }
      }
      return ticks;
    }
  }

  /** The bars with their metres and keys. */
  private static final class Calendar {
    private final int[] beats;
    private final int[] units;
    private final int[] lengths;
    private final int[] keys;
    private int end;

    Calendar() {
      beats = new int[BARS];
      units = new int[BARS];
      lengths = new int[BARS];
      keys = new int[BARS];
      changeMetre(0, 4, 4);
    }

    private static boolean isBar(int bar) {
      return bar >= 0 && bar < BARS;
    }

    void changeMetre(int bar, int newBeats, int newUnit) {
      if (!isBar(bar) || newUnit <= 0) {
        return;
      }
      for (int i = bar; i < BARS; i++) {
        beats[i] = newBeats;
        units[i] = newUnit;
        lengths[i] = newBeats * 64 / newUnit;
      }
      end = beginAt(BARS);
    }

    void changeKey(int bar, int key) {
      if (!isBar(bar)) {
        return;
      }
      for (int i = bar; i < BARS; i++) {
        keys[i] = key;
      }
    }

    int keyAt(int bar) {
      return isBar(bar) ? keys[bar] : 0;
    }

    int lengthAt(int bar) {
      return isBar(bar) ? lengths[bar] : 0;
    }

    /** The tick at which a bar begins; of the bar behind the last one it is the end of that. */
    int beginAt(int bar) {
      int tick = 0;
      for (int i = 0; i < bar && i < BARS; i++) {
        tick += lengths[i];
      }
      return tick;
    }

    int end() {
      return end;
    }

    int barAt(int tick) {
      int barEnd = 0;
      for (int bar = 0; bar < BARS; bar++) {
        barEnd += lengths[bar];
        if (tick < barEnd) {
          return bar;
        }
      }
      return NONE;
    }

    /** How many bars there are up to the one in which a tick is the end of something. */
    int barsUpTo(int tick) {
      if (tick <= 0) {
        return 0;
      }
      return tick <= end ? barAt(tick - 1) + 1 : BARS;
    }

    int ticksBehind(int tick, int bar) {
      int barEnd = beginAt(bar) + lengthAt(bar);
      return Math.max(0, Math.min(lengthAt(bar), barEnd - tick));
    }

    int groupLengthAt(int bar) {
      if (!isBar(bar)) {
        return 16;
      }
      if (units[bar] == 8 && beats[bar] % 3 == 0) {
        return 24;
      }
      return units[bar] == 2 ? 32 : 16;
    }
  }

  /** One part: its events, its range and its shift. */
  private static final class Part {
    private final int[] places;
    private final int[] alters;
    private final int[] heights;
    private final int[] begins;
    private final int[] lengths;
    private final int[] writtenPlaces;
    private final int[] writtenAlters;
    private int count;
    private int end;
    private int lowest;
    private int highest;
    private int fifths;
    private int octaves;

    Part() {
      places = new int[MOST_EVENTS];
      alters = new int[MOST_EVENTS];
      heights = new int[MOST_EVENTS];
      begins = new int[MOST_EVENTS];
      lengths = new int[MOST_EVENTS];
      writtenPlaces = new int[MOST_EVENTS];
      writtenAlters = new int[MOST_EVENTS];
      lowest = 1;
      highest = HIGHEST_PLACE;
    }

    int size() {
      return count;
    }

    int end() {
      return end;
    }

    boolean has(int event) {
      return event >= 0 && event < count && event < MOST_EVENTS;
    }

    int append(int place, int alter, int length) {
      int event = count;
      if (event < 0 || event >= MOST_EVENTS) {
        return NONE;
      }
      begins[event] = end;
      lengths[event] = length;
      count = event + 1;
      end += length;
      givePitch(event, place, alter);
      return event;
    }

    int removeLast() {
      int last = count - 1;
      if (!has(last)) {
        return 0;
      }
      count = last;
      end = begins[last];
      return lengths[last];
    }

    void givePitch(int event, int place, int alter) {
      if (!has(event)) {
        return;
      }
      places[event] = place;
      alters[event] = alter;
      heights[event] = place == REST ? NONE : Scale.plainHeight(place) + alter;
      writeForInstrument(event);
    }

    private void writeForInstrument(int event) {
      if (!has(event)) {
        return;
      }
      int place = places[event] + 4 * fifths + STEPS * octaves;
      int alter = heights[event] + 7 * fifths + CLASSES * octaves - Scale.plainHeight(place);
      boolean isWritten = places[event] != REST && Scale.isPitch(place, alter);
      writtenPlaces[event] = isWritten ? place : NONE;
      writtenAlters[event] = isWritten ? alter : NO_ALTER;
    }

    void changeRange(int newLowest, int newHighest) {
      lowest = newLowest;
      highest = newHighest;
    }

    void changeShift(int newFifths, int newOctaves) {
      fifths = newFifths;
      octaves = newOctaves;
      for (int event = 0; event < count; event++) {
        writeForInstrument(event);
      }
    }

    boolean isNote(int event) {
      return has(event) && places[event] != REST;
    }

    int placeAt(int event) {
      return has(event) ? places[event] : REST;
    }

    int alterAt(int event) {
      return has(event) ? alters[event] : 0;
    }

    /** The height of an event; -1 if it is a rest, or if there is no such event. */
    int heightAt(int event) {
      return has(event) ? heights[event] : NONE;
    }

    int beginAt(int event) {
      return has(event) ? begins[event] : end;
    }

    int endAt(int event) {
      return has(event) ? begins[event] + lengths[event] : end;
    }

    /** The first event that ends behind a tick, or the number of events. */
    int firstEndingBehind(int tick) {
      int low = 0;
      int high = count;
      for (int halvings = 0; halvings < 32 && low < high; halvings++) {
        int middle = (low + high) / 2;
        if (endAt(middle) > tick) {
          high = middle;
        } else {
          low = middle + 1;
        }
      }
      return low;
    }

    boolean isOutOfRange(int event) {
      return has(event) && places[event] != REST
          && (places[event] < lowest || places[event] > highest);
    }

    int writtenPlaceAt(int event) {
      return has(event) ? writtenPlaces[event] : NONE;
    }

    int writtenAlterAt(int event) {
      return has(event) ? writtenAlters[event] : NO_ALTER;
    }

    int keyAsWritten(int key) {
      int written = key + fifths;
      if (written > 7) {
        return written - CLASSES;
      }
      return written < -7 ? written + CLASSES : written;
    }

    int notes() {
      int found = 0;
      for (int event = 0; event < count; event++) {
        found += isNote(event) ? 1 : 0;
      }
      return found;
    }

    int notesOutOfRange() {
      int found = 0;
      for (int event = 0; event < count; event++) {
        found += isOutOfRange(event) ? 1 : 0;
      }
      return found;
    }

    int notesWithoutWrittenPitch() {
      int found = 0;
      for (int event = 0; event < count; event++) {
        found += isNote(event) && writtenPlaces[event] == NONE ? 1 : 0;
      }
      return found;
    }

    int sumOfHeights() {
      int sum = 0;
      for (int event = 0; event < count; event++) {
        sum += isNote(event) ? heightAt(event) : 0;
      }
      return sum;
    }
  }

  /** The signs of one part in one bar. */
  private static final class Measure {
    private final int[] signEvents;
    private final int[] ticks;
    private final int[] lengths;
    private final boolean[] firstOfNote;
    private final boolean[] tied;
    private final int[] shownAlters;
    private final int[] shownAltersAsWritten;
    private final int[] beamNumbers;
    private final int[] altersInForce;
    private int count;
    private int beamCount;

    Measure() {
      signEvents = new int[MOST_SIGNS];
      ticks = new int[MOST_SIGNS];
      lengths = new int[MOST_SIGNS];
      firstOfNote = new boolean[MOST_SIGNS];
      tied = new boolean[MOST_SIGNS];
      shownAlters = new int[MOST_SIGNS];
      shownAltersAsWritten = new int[MOST_SIGNS];
      beamNumbers = new int[MOST_SIGNS];
      altersInForce = new int[HIGHEST_PLACE + 1];
    }

    int size() {
      return count;
    }

    int beamTotal() {
      return beamCount;
    }

    boolean has(int sign) {
      return sign >= 0 && sign < count && sign < MOST_SIGNS;
    }

    int eventAt(int sign) {
      return has(sign) ? signEvents[sign] : NONE;
    }

    int lengthAt(int sign) {
      return has(sign) ? lengths[sign] : 0;
    }

    boolean tiedAt(int sign) {
      return has(sign) && tied[sign];
    }

    int shownAt(int sign) {
      return has(sign) ? shownAlters[sign] : NO_ALTER;
    }

    int shownAsWrittenAt(int sign) {
      return has(sign) ? shownAltersAsWritten[sign] : NO_ALTER;
    }

    int beamAt(int sign) {
      return has(sign) ? beamNumbers[sign] : NONE;
    }

    void write(Part part, Calendar calendar, int bar) {
      int from = calendar.beginAt(bar);
      int to = from + calendar.lengthAt(bar);
      count = 0;
      for (int event = part.firstEndingBehind(from); event < part.size() && part.beginAt(event) < to; event++) {
        int stretchEnd = Math.min(to, part.endAt(event));
        writeStretch(event, Math.max(from, part.beginAt(event)), stretchEnd);
      }
      markSigns(part, calendar.end());
      beamSigns(part, from, calendar.groupLengthAt(bar));
      showAlters(part, calendar.keyAt(bar));
      showAltersAsWritten(part, part.keyAsWritten(calendar.keyAt(bar)));
    }

    private void writeStretch(int event, int from, int to) {
      int tick = from;
      for (int i = 0; i < MOST_SIGNS && tick < to; i++) {
        int length = Values.greatestIn(to - tick);
        addSign(event, tick, length);
        tick += length;
      }
    }

    private void addSign(int event, int tick, int length) {
      if (count < 0 || count >= MOST_SIGNS) {
        return;
      }
      signEvents[count] = event;
      ticks[count] = tick;
      lengths[count] = length;
      count++;
    }

    private void markSigns(Part part, int scoreEnd) {
      for (int sign = 0; sign < count && sign < MOST_SIGNS; sign++) {
        int event = signEvents[sign];
        // What lies behind the last bar has no signs, so nothing is tied to it.
        int noteEnd = Math.min(part.endAt(event), scoreEnd);
        tied[sign] = part.isNote(event) && ticks[sign] + lengths[sign] < noteEnd;
        firstOfNote[sign] = part.isNote(event) && ticks[sign] == part.beginAt(event);
      }
    }

    private void beamSigns(Part part, int barBegin, int groupLength) {
      beamCount = 0;
      int groupAhead = NONE;
      for (int sign = 0; sign < count && sign < MOST_SIGNS; sign++) {
        int group = NONE;
        if (groupLength > 0 && lengths[sign] <= 12 && part.isNote(signEvents[sign])) {
          group = (ticks[sign] - barBegin) / groupLength;
        }
        beamNumbers[sign] = NONE;
        if (sign > 0 && group != NONE && group == groupAhead) {
          joinToSignAhead(sign);
        }
        groupAhead = group;
      }
    }

    private void joinToSignAhead(int sign) {
      if (!has(sign) || !has(sign - 1)) {
        return;
      }
      if (beamNumbers[sign - 1] == NONE) {
        beamNumbers[sign - 1] = beamCount;
        beamCount++;
      }
      beamNumbers[sign] = beamNumbers[sign - 1];
    }

    private void showAlters(Part part, int key) {
      Arrays.fill(altersInForce, NO_ALTER);
      for (int sign = 0; sign < count && sign < MOST_SIGNS; sign++) {
        int event = signEvents[sign];
        shownAlters[sign] = firstOfNote[sign]
            ? alterToShow(part.placeAt(event), part.alterAt(event), key) : NO_ALTER;
      }
    }

    private void showAltersAsWritten(Part part, int key) {
      Arrays.fill(altersInForce, NO_ALTER);
      for (int sign = 0; sign < count && sign < MOST_SIGNS; sign++) {
        int event = signEvents[sign];
        shownAltersAsWritten[sign] = firstOfNote[sign]
            ? alterToShow(part.writtenPlaceAt(event), part.writtenAlterAt(event), key) : NO_ALTER;
      }
    }

    private int alterToShow(int place, int alter, int key) {
      if (place < 1 || place >= altersInForce.length) {
        return NO_ALTER;
      }
      int inForce = altersInForce[place];
      if (inForce == NO_ALTER) {
        inForce = Scale.alterByKey(key, place % STEPS);
      }
      if (alter == inForce) {
        return NO_ALTER;
      }
      altersInForce[place] = alter;
      return alter;
    }
  }

  /** The moments, and the events that go on at each of them. */
  private static final class Harmony {
    private final int[] ticks;
    private final int[] eventsThen;
    private final int[] begun;
    private int count;

    Harmony() {
      ticks = new int[MOST_EVENTS];
      eventsThen = new int[MOST_EVENTS * PARTS];
      begun = new int[PARTS];
    }

    int size() {
      return count;
    }

    boolean has(int moment) {
      return moment >= 0 && moment < count && moment < MOST_EVENTS;
    }

    int tickAt(int moment) {
      return has(moment) ? ticks[moment] : NONE;
    }

    /** The event of a part that goes on at a moment; -1 if the part has ended. */
    int eventAt(int moment, int part) {
      return has(moment) && part >= 0 && part < PARTS ? eventsThen[moment * PARTS + part] : NONE;
    }

    void listen(Part[] parts) {
      Arrays.fill(begun, 0);
      count = 0;
      for (int moment = 0; moment < MOST_EVENTS; moment++) {
        int tick = nextBegin(parts);
        if (tick == NONE) {
          return;
        }
        ticks[moment] = tick;
        count = moment + 1;
        for (int part = 0; part < parts.length && part < PARTS; part++) {
          eventsThen[moment * PARTS + part] = eventGoingOn(parts[part], part, tick);
        }
      }
    }

    private int nextBegin(Part[] parts) {
      int next = NONE;
      for (int part = 0; part < parts.length && part < PARTS; part++) {
        int event = begun[part];
        if (parts[part].has(event)) {
          int begin = parts[part].beginAt(event);
          next = next == NONE ? begin : Math.min(next, begin);
        }
      }
      return next;
    }

    private int eventGoingOn(Part written, int part, int tick) {
      if (part < 0 || part >= PARTS) {
        return NONE;
      }
      if (written.has(begun[part]) && written.beginAt(begun[part]) == tick) {
        begun[part]++;
      }
      int event = begun[part] - 1;
      return written.has(event) && written.endAt(event) > tick ? event : NONE;
    }
  }

  /** The chord of one moment. */
  private static final class Chord {
    private static final int[] SECOND_TONES = {4, 3, 3, 4};
    private static final int[] THIRD_TONES = {7, 7, 6, 8};
    private static final int AUGMENTED = 3;

    private int root;
    private int kind;
    private int lowest;

    Chord() {
      root = NONE;
      kind = NONE;
      lowest = NONE;
    }

    int rootClass() {
      return root;
    }

    int kindNumber() {
      return kind;
    }

    /** Which tone of the chord is the lowest one: 0 the root, 1 the second, 2 the third. */
    int lowestTone() {
      return lowest;
    }

    void tell(Part[] parts, Harmony harmony, int moment) {
      int classes = 0;
      int lowestHeight = NONE;
      for (int part = 0; part < parts.length; part++) {
        int height = parts[part].heightAt(harmony.eventAt(moment, part));
        if (height >= 0) {
          classes |= 1 << height % CLASSES;
          lowestHeight = lowestHeight == NONE ? height : Math.min(lowestHeight, height);
        }
      }
      forget();
      if (Integer.bitCount(classes) == 3) {
        findRoot(classes, lowestHeight % CLASSES);
      }
    }

    private void forget() {
      root = NONE;
      kind = NONE;
      lowest = NONE;
    }

    private void findRoot(int classes, int lowestClass) {
      for (int r = 0; r < CLASSES && root == NONE; r++) {
        if ((classes >> r & 1) == 1) {
          findKind(classes, r, lowestClass);
        }
      }
    }

    private void findKind(int classes, int r, int lowestClass) {
      for (int k = 0; k < SECOND_TONES.length && k < THIRD_TONES.length; k++) {
        int second = (r + SECOND_TONES[k]) % CLASSES;
        int third = (r + THIRD_TONES[k]) % CLASSES;
        boolean rootIsRight = k != AUGMENTED || r == lowestClass;
        if (rootIsRight && classes == (1 << r | 1 << second | 1 << third)) {
          root = r;
          kind = k;
          lowest = lowestClass == r ? 0 : lowestClass == second ? 1 : 2;
        }
      }
    }
  }

  /** The faults, in their order. */
  private static final class FaultList {
    private static final int FIFTHS = 0;
    private static final int OCTAVES = 1;
    private static final int CROSSING = 2;
    private static final int LEAP = 3;
    private static final int RANGE = 4;

    private final int[] kinds;
    private final int[] ticks;
    private final int[] partCodes;
    private final int[] heightsAhead;
    private final int[] heightsNow;
    private final boolean[] begins;
    private final int[] ways;
    private int count;

    FaultList() {
      kinds = new int[MOST_FAULTS];
      ticks = new int[MOST_FAULTS];
      partCodes = new int[MOST_FAULTS];
      heightsAhead = new int[PARTS];
      heightsNow = new int[PARTS];
      begins = new boolean[PARTS];
      ways = new int[PARTS];
    }

    int size() {
      return count;
    }

    boolean has(int fault) {
      return fault >= 0 && fault < count && fault < MOST_FAULTS;
    }

    int kindAt(int fault) {
      return has(fault) ? kinds[fault] : NONE;
    }

    int tickAt(int fault) {
      return has(fault) ? ticks[fault] : NONE;
    }

    int partsAt(int fault) {
      return has(fault) ? partCodes[fault] : NONE;
    }

    void search(Part[] parts, Harmony harmony) {
      count = 0;
      Arrays.fill(heightsNow, NONE);
      for (int moment = 0; moment < harmony.size(); moment++) {
        int tick = harmony.tickAt(moment);
        goOn(parts, harmony, moment);
        searchParallels(tick);
        searchCrossings(tick);
        for (int part = 0; part < parts.length && part < PARTS; part++) {
          if (begins[part]) {
            searchNote(parts[part], part, harmony.eventAt(moment, part));
          }
        }
      }
    }

    private void add(int kind, int tick, int partCode) {
      if (count < 0 || count >= MOST_FAULTS) {
        return;
      }
      kinds[count] = kind;
      ticks[count] = tick;
      partCodes[count] = partCode;
      count++;
    }

    private void goOn(Part[] parts, Harmony harmony, int moment) {
      for (int part = 0; part < parts.length && part < PARTS; part++) {
        int event = harmony.eventAt(moment, part);
        heightsAhead[part] = heightsNow[part];
        heightsNow[part] = parts[part].heightAt(event);
        begins[part] = parts[part].isNote(event) && parts[part].beginAt(event) == harmony.tickAt(moment);
        // 1 up to a note that begins now, -1 down, 0 neither.
        ways[part] = begins[part] && heightsAhead[part] != NONE
            ? Integer.compare(heightsNow[part], heightsAhead[part]) : 0;
      }
    }

    private void searchParallels(int tick) {
      for (int p = 0; p < PARTS; p++) {
        for (int q = p + 1; q < PARTS; q++) {
          if (ways[p] != 0 && ways[p] == ways[q]) {
            int ahead = Math.floorMod(heightsAhead[p] - heightsAhead[q], CLASSES);
            int now = Math.floorMod(heightsNow[p] - heightsNow[q], CLASSES);
            if (ahead == now && now == 7) {
              add(FIFTHS, tick, 4 * p + q);
            } else if (ahead == now && now == 0) {
              add(OCTAVES, tick, 4 * p + q);
            }
          }
        }
      }
    }

    private void searchCrossings(int tick) {
      for (int p = 0; p < PARTS; p++) {
        for (int q = p + 1; q < PARTS; q++) {
          boolean bothSound = heightsNow[p] != NONE && heightsNow[q] != NONE;
          if (bothSound && (begins[p] || begins[q]) && heightsNow[p] < heightsNow[q]) {
            add(CROSSING, tick, 4 * p + q);
          }
        }
      }
    }

    private void searchNote(Part written, int part, int event) {
      int tick = written.beginAt(event);
      if (written.isNote(event - 1)
          && Math.abs(written.heightAt(event) - written.heightAt(event - 1)) > 12) {
        add(LEAP, tick, part);
      }
      if (written.isOutOfRange(event)) {
        add(RANGE, tick, part);
      }
    }
  }

  /** The widths of the bars, and the best way of breaking them into lines. */
  private static final class LineBreaks {
    private final int[] widths;
    private final int[] costs;
    private final int[] nextLines;
    private final int[] lineNumbers;
    private int lineCount;

    LineBreaks() {
      widths = new int[BARS];
      costs = new int[BARS + 1];
      nextLines = new int[BARS];
      lineNumbers = new int[BARS];
    }

    int size() {
      return lineCount;
    }

    int leastCost() {
      return costs[0];
    }

    int widthAt(int bar) {
      return bar >= 0 && bar < BARS ? widths[bar] : 0;
    }

    int lineAt(int bar) {
      return bar >= 0 && bar < BARS ? lineNumbers[bar] : NONE;
    }

    void measureWidths(Calendar calendar, Harmony harmony) {
      int moment = 0;
      for (int bar = 0; bar < BARS; bar++) {
        int last = calendar.beginAt(bar);
        int end = last + calendar.lengthAt(bar);
        int width = 3 + (Math.abs(calendar.keyAt(bar)) + 3) / 4;
        for (; moment < harmony.size() && harmony.tickAt(moment) < end; moment++) {
          int tick = harmony.tickAt(moment);
          if (tick > last) {
            width += widthOfGap(tick - last);
            last = tick;
          }
        }
        widths[bar] = width + widthOfGap(end - last);
      }
    }

    private static int widthOfGap(int ticks) {
      int k = 0;
      for (int i = 1; i < 31 && ticks >> i > 0; i++) {
        k = i;
      }
      return 2 + k;
    }

    void breakUp(int bars, int lineWidth) {
      int scoreEnd = Math.max(0, Math.min(bars, BARS));
      costs[scoreEnd] = 0;
      for (int bar = scoreEnd - 1; bar >= 0; bar--) {
        chooseLine(bar, scoreEnd, lineWidth);
      }
      numberLines(scoreEnd);
    }

    private void chooseLine(int first, int scoreEnd, int lineWidth) {
      if (first < 0 || first >= BARS) {
        return;
      }
      int wide = 0;
      int least = NONE;
      for (int next = first + 1; next <= scoreEnd && next <= BARS; next++) {
        wide += widths[next - 1];
        int free = lineWidth - wide;
        int cost = (next == scoreEnd && free >= 0 ? 0 : free * free) + costs[next];
        // Of equal ones the later counts: its first line has more bars.
        if (least == NONE || cost <= least) {
          least = cost;
          nextLines[first] = next;
        }
      }
      costs[first] = least;
    }

    private void numberLines(int scoreEnd) {
      lineCount = 0;
      int nextLine = 0;
      for (int bar = 0; bar < BARS; bar++) {
        if (bar >= scoreEnd) {
          lineNumbers[bar] = NONE;
        } else {
          if (bar == nextLine) {
            lineCount++;
            nextLine = nextLines[bar];
          }
          lineNumbers[bar] = lineCount - 1;
        }
      }
    }
  }
}
