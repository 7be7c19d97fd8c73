import java.util.ArrayList;
import java.util.Arrays;
import java.util.HashMap;
import java.util.List;
import java.util.Map;
import java.util.Random;
import java.util.TreeSet;
import java.util.function.LongSupplier;

/**
 * Compares ChoraleDesk with a slow model, written tick by tick after the words of the document, over
 * thousands of runs of calls with fixed seeds.
 */
public final class ModelTests {
  private static final long INDEX = Long.MIN_VALUE;
  private static final long ARGUMENT = Long.MIN_VALUE + 1;
  private static final long STATE = Long.MIN_VALUE + 2;
  private static final int[] VALUES = {64, 32, 16, 8, 4, 96, 48, 24, 12, 6};

  private static int wrong = 0;

  /** Stands for an answer that is an exception. */
  private static final class Refused extends RuntimeException {
    private static final long serialVersionUID = 1L;
    final long code;

    Refused(long code) {
      super(null, null, false, false);
      this.code = code;
    }
  }

  private static final class Event {
    int place;
    int alter;
    final int value;
    final boolean note;

    Event(boolean note, int place, int alter, int value) {
      this.note = note;
      this.place = place;
      this.alter = alter;
      this.value = value;
    }

    int height() {
      return note ? height(place, alter) : -1;
    }

    static int height(int place, int alter) {
      return 12 * (place / 7) + new int[] {0, 2, 4, 5, 7, 9, 11}[place % 7] + alter;
    }
  }

  private record Sign(int event, int tick, int length) { }

  private record Fault(int kind, int tick, int parts) { }

  /** The document, word by word. */
  private static final class Model {
    final List<List<Event>> parts = new ArrayList<>();
    final int[] beats = new int[24];
    final int[] units = new int[24];
    final int[] keys = new int[24];
    final int[] lowest = {1, 1, 1, 1};
    final int[] highest = {62, 62, 62, 62};
    final int[] fifths = new int[4];
    final int[] octaves = new int[4];

    Model() {
      for (int p = 0; p < 4; p++) {
        parts.add(new ArrayList<>());
      }
      Arrays.fill(beats, 4);
      Arrays.fill(units, 4);
    }

    static void index(boolean right) {
      if (!right) {
        throw new Refused(INDEX);
      }
    }

    static void argument(boolean right) {
      if (!right) {
        throw new Refused(ARGUMENT);
      }
    }

    static void state(boolean right) {
      if (!right) {
        throw new Refused(STATE);
      }
    }

    static boolean in(int x, int from, int to) {
      return from <= x && x <= to;
    }

    static boolean isValue(int value) {
      for (int v : VALUES) {
        if (v == value) {
          return true;
        }
      }
      return false;
    }

    static int mod(int a, int b) {
      return ((a % b) + b) % b;
    }

    void part(int part) {
      index(in(part, 0, 3));
    }

    void bar(int bar) {
      index(in(bar, 0, 23));
    }

    Event event(int part, int event) {
      part(part);
      index(in(event, 0, parts.get(part).size() - 1));
      return parts.get(part).get(event);
    }

    int endOf(int part) {
      int end = 0;
      for (Event e : parts.get(part)) {
        end += e.value;
      }
      return end;
    }

    int barLength(int bar) {
      return beats[bar] * 64 / units[bar];
    }

    int barBegin(int bar) {
      int tick = 0;
      for (int b = 0; b < bar; b++) {
        tick += barLength(b);
      }
      return tick;
    }

    int addNote(int part, int place, int alter, int value) {
      part(part);
      argument(in(place, 1, 62) && in(alter, -2, 2) && isValue(value));
      state(endOf(part) + value <= barBegin(24));
      parts.get(part).add(new Event(true, place, alter, value));
      return parts.get(part).size() - 1;
    }

    int addRest(int part, int value) {
      part(part);
      argument(isValue(value));
      state(endOf(part) + value <= barBegin(24));
      parts.get(part).add(new Event(false, 0, 0, value));
      return parts.get(part).size() - 1;
    }

    int takeLast(int part) {
      part(part);
      state(!parts.get(part).isEmpty());
      return parts.get(part).remove(parts.get(part).size() - 1).value;
    }

    int setPitch(int part, int event, int place, int alter) {
      Event e = event(part, event);
      argument(in(place, 1, 62) && in(alter, -2, 2));
      state(e.note);
      int before = e.height();
      e.place = place;
      e.alter = alter;
      return before;
    }

    int setMetre(int bar, int b, int u) {
      bar(bar);
      argument(in(b, 1, 12) && (u == 2 || u == 4 || u == 8));
      Arrays.fill(beats, bar, 24, b);
      Arrays.fill(units, bar, 24, u);
      return b * 64 / u;
    }

    int setKey(int bar, int key) {
      bar(bar);
      argument(in(key, -7, 7));
      int before = keys[bar];
      Arrays.fill(keys, bar, 24, key);
      return before;
    }

    int setRange(int part, int low, int high) {
      part(part);
      argument(in(low, 1, 62) && in(high, low, 62));
      lowest[part] = low;
      highest[part] = high;
      int n = 0;
      for (Event e : parts.get(part)) {
        if (e.note && !in(e.place, low, high)) {
          n++;
        }
      }
      return n;
    }

    int setShift(int part, int f, int o) {
      part(part);
      argument(in(f, -6, 6) && in(o, -2, 2));
      fifths[part] = f;
      octaves[part] = o;
      int n = 0;
      for (int e = 0; e < parts.get(part).size(); e++) {
        if (parts.get(part).get(e).note && writtenPlace(part, e) == -1) {
          n++;
        }
      }
      return n;
    }

    int events(int part) {
      part(part);
      return parts.get(part).size();
    }

    int beginOf(int part, int event) {
      event(part, event);
      int tick = 0;
      for (int e = 0; e < event; e++) {
        tick += parts.get(part).get(e).value;
      }
      return tick;
    }

    int heightOf(int part, int event) {
      return event(part, event).height();
    }

    int barOf(int part, int event) {
      int tick = beginOf(part, event);
      for (int b = 0; b < 24; b++) {
        if (barBegin(b) <= tick && tick < barBegin(b) + barLength(b)) {
          return b;
        }
      }
      return -1;
    }

    int writtenPlace(int part, int event) {
      Event e = event(part, event);
      if (!e.note) {
        return -1;
      }
      int place = e.place + 4 * fifths[part] + 7 * octaves[part];
      int height = e.height() + 7 * fifths[part] + 12 * octaves[part];
      if (!in(place, 1, 62)) {
        return -1;
      }
      for (int alter = -2; alter <= 2; alter++) {
        if (Event.height(place, alter) == height) {
          return place;
        }
      }
      return -1;
    }

    int writtenAlter(int part, int event) {
      int place = writtenPlace(part, event);
      if (place == -1) {
        return -3;
      }
      int height = heightOf(part, event) + 7 * fifths[part] + 12 * octaves[part];
      for (int alter = -2; alter <= 2; alter++) {
        if (Event.height(place, alter) == height) {
          return alter;
        }
      }
      return -3;
    }

    int alterIn(int key, int step) {
      argument(in(key, -7, 7) && in(step, 0, 6));
      int[] sharps = {3, 0, 4, 1, 5, 2, 6};
      int[] flats = {6, 2, 5, 1, 4, 0, 3};
      for (int i = 0; i < key; i++) {
        if (sharps[i] == step) {
          return 1;
        }
      }
      for (int i = 0; i < -key; i++) {
        if (flats[i] == step) {
          return -1;
        }
      }
      return 0;
    }

    int writtenKey(int part, int bar) {
      part(part);
      bar(bar);
      int key = keys[bar] + fifths[part];
      return key > 7 ? key - 12 : key < -7 ? key + 12 : key;
    }

    int beginOfBar(int bar) {
      bar(bar);
      return barBegin(bar);
    }

    int lengthOfBar(int bar) {
      bar(bar);
      return barLength(bar);
    }

    List<Sign> signsIn(int part, int bar) {
      List<Sign> signs = new ArrayList<>();
      int from = barBegin(bar);
      int to = from + barLength(bar);
      int begin = 0;
      for (int e = 0; e < parts.get(part).size(); e++) {
        int end = begin + parts.get(part).get(e).value;
        int left = 0;
        int first = -1;
        for (int t = begin; t < end; t++) {
          if (from <= t && t < to) {
            left++;
            first = first < 0 ? t : first;
          }
        }
        while (left > 0) {
          int piece = 0;
          for (int v : VALUES) {
            if (v <= left) {
              piece = Math.max(piece, v);
            }
          }
          piece = left < 4 ? left : piece;
          signs.add(new Sign(e, first, piece));
          first += piece;
          left -= piece;
        }
        begin = end;
      }
      return signs;
    }

    List<Sign> bothSigns(int part, int bar) {
      part(part);
      bar(bar);
      return signsIn(part, bar);
    }

    Sign sign(int part, int bar, int sign) {
      List<Sign> signs = bothSigns(part, bar);
      index(in(sign, 0, signs.size() - 1));
      return signs.get(sign);
    }

    int signs(int part, int bar) {
      return bothSigns(part, bar).size();
    }

    int eventOf(int part, int bar, int sign) {
      return sign(part, bar, sign).event;
    }

    int lengthOf(int part, int bar, int sign) {
      return sign(part, bar, sign).length;
    }

    int isTied(int part, int bar, int sign) {
      Sign s = sign(part, bar, sign);
      if (!parts.get(part).get(s.event).note) {
        return 0;
      }
      List<Sign> behind = new ArrayList<>(signsIn(part, bar));
      behind.subList(0, sign + 1).clear();
      if (bar < 23) {
        behind.addAll(signsIn(part, bar + 1));
      }
      for (Sign other : behind) {
        if (other.event == s.event) {
          return 1;
        }
      }
      return 0;
    }

    int shownIn(int part, int bar, int sign, boolean written) {
      sign(part, bar, sign);
      Map<Integer, Integer> force = new HashMap<>();
      int answer = -3;
      List<Sign> signs = signsIn(part, bar);
      for (int i = 0; i <= sign; i++) {
        Sign s = signs.get(i);
        Event e = parts.get(part).get(s.event);
        answer = -3;
        if (!e.note || s.tick != beginOf(part, s.event)) {
          continue;
        }
        int place = written ? writtenPlace(part, s.event) : e.place;
        int alter = written ? writtenAlter(part, s.event) : e.alter;
        if (place == -1) {
          continue;
        }
        int key = written ? writtenKey(part, bar) : keys[bar];
        if (alter != force.getOrDefault(place, alterIn(key, place % 7))) {
          answer = alter;
          force.put(place, alter);
        }
      }
      return answer;
    }

    int group(int bar, int tick) {
      int g = units[bar] == 2 ? 32 : 16;
      if (units[bar] == 8 && (beats[bar] == 3 || beats[bar] == 6 || beats[bar] == 9 || beats[bar] == 12)) {
        g = 24;
      }
      return (tick - barBegin(bar)) / g;
    }

    int[] beamNumbers(int part, int bar) {
      List<Sign> signs = signsIn(part, bar);
      int[] numbers = new int[signs.size()];
      Arrays.fill(numbers, -1);
      int beams = 0;
      int i = 0;
      while (i < numbers.length) {
        int j = i;
        while (j < numbers.length && isShort(part, signs.get(j))
            && group(bar, signs.get(j).tick) == group(bar, signs.get(i).tick)) {
          j++;
        }
        if (j - i >= 2) {
          Arrays.fill(numbers, i, j, beams);
          beams++;
        }
        i = Math.max(j, i + 1);
      }
      return numbers;
    }

    boolean isShort(int part, Sign s) {
      return s.length <= 12 && parts.get(part).get(s.event).note;
    }

    int beams(int part, int bar) {
      bothSigns(part, bar);
      int most = -1;
      for (int b : beamNumbers(part, bar)) {
        most = Math.max(most, b);
      }
      return most + 1;
    }

    int beamOf(int part, int bar, int sign) {
      sign(part, bar, sign);
      return beamNumbers(part, bar)[sign];
    }

    int missing(int part, int bar) {
      part(part);
      bar(bar);
      int n = 0;
      for (int t = barBegin(bar); t < barBegin(bar) + barLength(bar); t++) {
        if (t >= endOf(part)) {
          n++;
        }
      }
      return n;
    }

    int[] ticks() {
      TreeSet<Integer> ticks = new TreeSet<>();
      for (List<Event> part : parts) {
        int tick = 0;
        for (Event e : part) {
          ticks.add(tick);
          tick += e.value;
        }
      }
      int[] row = new int[ticks.size()];
      int n = 0;
      for (int t : ticks) {
        row[n++] = t;
      }
      return row;
    }

    int moments() {
      return ticks().length;
    }

    int tickOf(int moment) {
      int[] ticks = ticks();
      index(in(moment, 0, ticks.length - 1));
      return ticks[moment];
    }

    /** The note of a part that begins at the tick or ahead of it, and ends behind it; -1 without one. */
    int noteAt(int part, int tick) {
      int begin = 0;
      for (int e = 0; e < parts.get(part).size(); e++) {
        int end = begin + parts.get(part).get(e).value;
        if (begin <= tick && tick < end && parts.get(part).get(e).note) {
          return e;
        }
        begin = end;
      }
      return -1;
    }

    int soundAt(int part, int tick) {
      int e = noteAt(part, tick);
      return e < 0 ? -1 : heightOf(part, e);
    }

    int sounds(int moment, int part) {
      int tick = tickOf(moment);
      part(part);
      return soundAt(part, tick);
    }

    /** root, kind, inversion */
    int[] chord(int moment) {
      int tick = tickOf(moment);
      TreeSet<Integer> classes = new TreeSet<>();
      int low = Integer.MAX_VALUE;
      for (int p = 0; p < 4; p++) {
        int h = soundAt(p, tick);
        if (h >= 0) {
          classes.add(h % 12);
          low = Math.min(low, h);
        }
      }
      int[][] kinds = {{4, 7}, {3, 7}, {3, 6}, {4, 8}};
      for (int k = 0; k < 4 && classes.size() == 3; k++) {
        for (int r : classes) {
          List<Integer> tones = List.of(r, (r + kinds[k][0]) % 12, (r + kinds[k][1]) % 12);
          if (classes.containsAll(tones) && (k != 3 || low % 12 == r)) {
            return new int[] {r, k, tones.indexOf(low % 12)};
          }
        }
      }
      return new int[] {-1, -1, -1};
    }

    boolean beginsNote(int part, int tick) {
      int e = noteAt(part, tick);
      return e >= 0 && beginOf(part, e) == tick;
    }

    List<Fault> allFaults() {
      List<Fault> found = new ArrayList<>();
      int[] ticks = ticks();
      for (int m = 0; m < ticks.length; m++) {
        int t = ticks[m];
        for (int p = 0; p < 4; p++) {
          for (int q = p + 1; q < 4; q++) {
            if (m > 0) {
              addParallel(found, ticks[m - 1], t, p, q);
            }
          }
        }
        for (int p = 0; p < 4; p++) {
          for (int q = p + 1; q < 4; q++) {
            if (noteAt(p, t) >= 0 && noteAt(q, t) >= 0 && (beginsNote(p, t) || beginsNote(q, t))
                && soundAt(p, t) < soundAt(q, t)) {
              found.add(new Fault(2, t, 4 * p + q));
            }
          }
        }
        for (int p = 0; p < 4; p++) {
          if (!beginsNote(p, t)) {
            continue;
          }
          int e = noteAt(p, t);
          Event now = parts.get(p).get(e);
          if (e > 0 && parts.get(p).get(e - 1).note
              && Math.abs(parts.get(p).get(e - 1).height() - now.height()) > 12) {
            found.add(new Fault(3, t, p));
          }
          if (now.place < lowest[p] || now.place > highest[p]) {
            found.add(new Fault(4, t, p));
          }
        }
      }
      return found;
    }

    void addParallel(List<Fault> found, int ahead, int t, int p, int q) {
      int p0 = soundAt(p, ahead);
      int q0 = soundAt(q, ahead);
      int p1 = soundAt(p, t);
      int q1 = soundAt(q, t);
      if (p0 < 0 || q0 < 0 || p1 < 0 || q1 < 0 || !beginsNote(p, t) || !beginsNote(q, t)) {
        return;
      }
      if (!(p1 > p0 && q1 > q0) && !(p1 < p0 && q1 < q0)) {
        return;
      }
      if (mod(p0 - q0, 12) == 7 && mod(p1 - q1, 12) == 7) {
        found.add(new Fault(0, t, 4 * p + q));
      }
      if (mod(p0 - q0, 12) == 0 && mod(p1 - q1, 12) == 0) {
        found.add(new Fault(1, t, 4 * p + q));
      }
    }

    int faults() {
      return allFaults().size();
    }

    Fault fault(int fault) {
      List<Fault> all = allFaults();
      index(in(fault, 0, all.size() - 1));
      return all.get(fault);
    }

    int faultsIfUp(int part, int event) {
      Event e = event(part, event);
      state(e.note);
      if (e.place + 7 > 62) {
        return -1;
      }
      e.place += 7;
      int n = faults();
      e.place -= 7;
      return n;
    }

    int bars() {
      for (int bar = 23; bar >= 0; bar--) {
        for (int p = 0; p < 4; p++) {
          if (!signsIn(p, bar).isEmpty()) {
            return bar + 1;
          }
        }
      }
      return 0;
    }

    int widthOf(int bar) {
      bar(bar);
      int from = barBegin(bar);
      int to = from + barLength(bar);
      List<Integer> marks = new ArrayList<>();
      marks.add(from);
      for (int t : ticks()) {
        if (from < t && t < to) {
          marks.add(t);
        }
      }
      marks.add(to);
      int signs = Math.abs(keys[bar]);
      int width = 3;
      while (signs > 0) {
        width++;
        signs -= 4;
      }
      for (int i = 0; i + 1 < marks.size(); i++) {
        int d = marks.get(i + 1) - marks.get(i);
        int k = 0;
        while (!(1 << k <= d && d < 1 << (k + 1))) {
          k++;
        }
        width += 2 + k;
      }
      return width;
    }

    /** The numbers of bars of the lines of the best way; found by going through all ways. */
    List<Integer> bestWay(int width) {
      int n = bars();
      int[] widths = new int[n];
      for (int b = 0; b < n; b++) {
        widths[b] = widthOf(b);
      }
      Map<Integer, List<Integer>> known = new HashMap<>();
      return bestFrom(0, widths, width, known);
    }

    List<Integer> bestFrom(int first, int[] widths, int width, Map<Integer, List<Integer>> known) {
      if (known.containsKey(first)) {
        return known.get(first);
      }
      List<Integer> best = null;
      for (int bars = 1; first + bars <= widths.length; bars++) {
        List<Integer> way = new ArrayList<>();
        way.add(bars);
        way.addAll(bestFrom(first + bars, widths, width, known));
        if (best == null || isBetter(way, best, first, widths, width)) {
          best = way;
        }
      }
      best = best == null ? new ArrayList<>() : best;
      known.put(first, best);
      return best;
    }

    static boolean isBetter(List<Integer> a, List<Integer> b, int first, int[] widths, int width) {
      long x = costOfWay(a, first, widths, width);
      long y = costOfWay(b, first, widths, width);
      if (x != y) {
        return x < y;
      }
      for (int i = 0; i < a.size() && i < b.size(); i++) {
        if (!a.get(i).equals(b.get(i))) {
          return a.get(i) > b.get(i);
        }
      }
      return false;
    }

    static long costOfWay(List<Integer> way, int first, int[] widths, int width) {
      long cost = 0;
      int bar = first;
      for (int line = 0; line < way.size(); line++) {
        long wide = 0;
        for (int i = 0; i < way.get(line); i++) {
          wide += widths[bar++];
        }
        boolean last = line == way.size() - 1;
        cost += last && wide <= width ? 0 : (width - wide) * (width - wide);
      }
      return cost;
    }

    int lines(int width) {
      argument(in(width, 10, 400));
      return bestWay(width).size();
    }

    int lineOf(int width, int bar) {
      bar(bar);
      argument(in(width, 10, 400));
      List<Integer> way = bestWay(width);
      int end = 0;
      for (int line = 0; line < way.size(); line++) {
        end += way.get(line);
        if (bar < end) {
          return line;
        }
      }
      return -1;
    }

    long costOf(int width) {
      argument(in(width, 10, 400));
      int[] widths = new int[bars()];
      for (int b = 0; b < widths.length; b++) {
        widths[b] = widthOf(b);
      }
      return costOfWay(bestWay(width), 0, widths, width);
    }

    double meanHeight() {
      double sum = 0;
      int n = 0;
      for (List<Event> part : parts) {
        for (Event e : part) {
          if (e.note) {
            sum += e.height();
            n++;
          }
        }
      }
      return n == 0 ? 0 : sum / n;
    }

    long d;

    void v(long value) {
      d = d * 31 + value;
    }

    long digest() {
      d = 2467;
      for (int p = 0; p < 4; p++) {
        v(events(p));
        for (int e = 0; e < events(p); e++) {
          v(beginOf(p, e));
          v(heightOf(p, e));
          v(barOf(p, e));
          v(writtenPlace(p, e));
          v(writtenAlter(p, e));
        }
      }
      for (int b = 0; b < 24; b++) {
        v(beginOfBar(b));
        v(lengthOfBar(b));
        v(widthOf(b));
        for (int p = 0; p < 4; p++) {
          v(signs(p, b));
          v(beams(p, b));
          v(missing(p, b));
          v(writtenKey(p, b));
          for (int s = 0; s < signs(p, b); s++) {
            v(eventOf(p, b, s));
            v(lengthOf(p, b, s));
            v(isTied(p, b, s));
            v(shownIn(p, b, s, false));
            v(shownIn(p, b, s, true));
            v(beamOf(p, b, s));
          }
        }
      }
      v(moments());
      for (int m = 0; m < moments(); m++) {
        v(tickOf(m));
        for (int p = 0; p < 4; p++) {
          v(sounds(m, p));
        }
        v(chord(m)[0]);
        v(chord(m)[1]);
        v(chord(m)[2]);
      }
      List<Fault> all = allFaults();
      v(all.size());
      for (Fault f : all) {
        v(f.kind);
        v(f.tick);
        v(f.parts);
      }
      v(bars());
      v(lines(40));
      v(costOf(40));
      v(lines(100));
      v(costOf(100));
      return d;
    }
  }

  private static long answer(LongSupplier call) {
    try {
      return call.getAsLong();
    } catch (Refused e) {
      return e.code;
    } catch (RuntimeException e) {
      return codeOf(e);
    }
  }

  /** Exceptions of subclasses are the machine's, and never due. */
  private static long codeOf(RuntimeException e) {
    if (e.getClass() == IndexOutOfBoundsException.class) {
      return INDEX;
    }
    if (e.getClass() == IllegalArgumentException.class) {
      return ARGUMENT;
    }
    if (e.getClass() == IllegalStateException.class) {
      return STATE;
    }
    System.out.println("the machine threw " + e);
    wrong++;
    return Long.MIN_VALUE + 3;
  }

  /** One run of calls on a desk and its model. */
  private static final class Run {
    final ChoraleDesk desk = new ChoraleDesk();
    final Model model = new Model();
    final Random random;
    final int style;
    final int seed;
    final StringBuilder told = new StringBuilder();
    boolean failed;
    String lastCall = "digest()";
    LongSupplier lastIs;
    LongSupplier lastDue;

    Run(int seed) {
      this.seed = seed;
      this.random = new Random(seed);
      this.style = seed % 5;
      this.lastIs = () -> desk.digest();
      this.lastDue = () -> model.digest();
    }

    void same(String call, LongSupplier is, LongSupplier due) {
      long want = answer(due);
      long got = answer(is);
      told.append(call).append(" -> ").append(got).append('\n');
      lastCall = call;
      lastIs = is;
      lastDue = due;
      if (got != want && !failed) {
        failed = true;
        wrong++;
        System.out.println("seed " + seed + ": " + call + " answered " + got + ", due is " + want);
        if (wrong <= 2) {
          System.out.print(told);
        }
      }
    }

    int from(int low, int high) {
      return low + random.nextInt(high - low + 1);
    }

    /** Mostly within the bounds, now and then one of the numbers beside them. */
    int about(int low, int high) {
      int dice = random.nextInt(60);
      if (dice == 0) {
        return low - 1;
      }
      if (dice == 1) {
        return high + 1;
      }
      if (dice == 2) {
        return random.nextBoolean() ? Integer.MIN_VALUE : Integer.MAX_VALUE;
      }
      return high < low ? low : from(low, high);
    }

    int part() {
      return about(0, 3);
    }

    int bar() {
      if (random.nextInt(4) > 0) {
        return about(0, Math.max(0, model.bars() - 1));
      }
      return about(0, 23);
    }

    int event(int part) {
      return part < 0 || part > 3 ? 0 : about(0, model.events(part) - 1);
    }

    int sign(int part, int bar) {
      return part < 0 || part > 3 || bar < 0 || bar > 23 ? 0 : about(0, model.signs(part, bar) - 1);
    }

    int value() {
      int dice = random.nextInt(50);
      if (dice == 0) {
        return from(-1, 100);
      }
      if (style == 1) {
        return VALUES[from(2, 4)];
      }
      if (style == 2) {
        return random.nextInt(4) == 0 ? VALUES[from(0, 9)] : new int[] {4, 6, 8, 12}[from(0, 3)];
      }
      if (style == 4) {
        return 16;
      }
      return VALUES[from(0, 9)];
    }

    int place(int part) {
      if (style == 3) {
        return about(1, 62);
      }
      if (style == 4) {
        // A few triads, so that chords and parallels come.
        return about(44, 44) - 4 * part + 2 * from(-2, 2);
      }
      return about(40, 47) - 4 * Math.max(0, Math.min(3, part));
    }

    int alter() {
      return random.nextInt(3) > 0 && style != 3 ? about(0, 0) : about(-2, 2);
    }

    void write() {
      int p = part();
      int value = value();
      int dice = random.nextInt(40);
      if (dice < 28) {
        int place = place(p);
        int alter = alter();
        same("addNote(" + p + ", " + place + ", " + alter + ", " + value + ")",
            () -> desk.addNote(p, place, alter, value), () -> model.addNote(p, place, alter, value));
      } else if (dice < 31) {
        same("addRest(" + p + ", " + value + ")",
            () -> desk.addRest(p, value), () -> model.addRest(p, value));
      } else if (dice < 33) {
        same("takeLast(" + p + ")", () -> desk.takeLast(p), () -> model.takeLast(p));
      } else if (dice < 35) {
        int e = event(p);
        int place = place(p);
        int alter = alter();
        same("setPitch(" + p + ", " + e + ", " + place + ", " + alter + ")",
            () -> desk.setPitch(p, e, place, alter), () -> model.setPitch(p, e, place, alter));
      } else {
        arrange(p);
      }
    }

    void arrange(int p) {
      int b = bar();
      int dice = random.nextInt(4);
      if (dice == 0) {
        int beats = style == 1 ? about(1, 3) : about(1, 12);
        int unit = random.nextInt(20) == 0 ? from(-1, 16) : 2 << from(0, 2);
        same("setMetre(" + b + ", " + beats + ", " + unit + ")",
            () -> desk.setMetre(b, beats, unit), () -> model.setMetre(b, beats, unit));
      } else if (dice == 1) {
        int key = about(-7, 7);
        same("setKey(" + b + ", " + key + ")",
            () -> desk.setKey(b, key), () -> model.setKey(b, key));
      } else if (dice == 2) {
        int low = random.nextBoolean() ? about(1, 62) : about(25, 42);
        int high = random.nextInt(8) == 0 ? about(1, 62) : about(Math.max(1, Math.min(62, low)), 62);
        same("setRange(" + p + ", " + low + ", " + high + ")",
            () -> desk.setRange(p, low, high), () -> model.setRange(p, low, high));
      } else {
        int f = about(-6, 6);
        int o = about(-2, 2);
        same("setShift(" + p + ", " + f + ", " + o + ")",
            () -> desk.setShift(p, f, o), () -> model.setShift(p, f, o));
      }
    }

    void ask() {
      switch (random.nextInt(4)) {
        case 0 -> askPitch();
        case 1 -> askSign();
        case 2 -> askMoment();
        default -> askLine();
      }
    }

    void askPitch() {
      int p = part();
      int e = event(p);
      int b = bar();
      String at = "(" + p + ", " + e + ")";
      switch (random.nextInt(11)) {
        case 0 -> same("events(" + p + ")", () -> desk.events(p), () -> model.events(p));
        case 1 -> same("beginOf" + at, () -> desk.beginOf(p, e), () -> model.beginOf(p, e));
        case 2 -> same("heightOf" + at, () -> desk.heightOf(p, e), () -> model.heightOf(p, e));
        case 3 -> same("barOf" + at, () -> desk.barOf(p, e), () -> model.barOf(p, e));
        case 4 -> same("writtenPlace" + at, () -> desk.writtenPlace(p, e), () -> model.writtenPlace(p, e));
        case 5 -> same("writtenAlter" + at, () -> desk.writtenAlter(p, e), () -> model.writtenAlter(p, e));
        case 6 -> {
          int key = about(-7, 7);
          int step = about(0, 6);
          same("alterIn(" + key + ", " + step + ")", () -> desk.alterIn(key, step), () -> model.alterIn(key, step));
        }
        case 7 -> same("writtenKey(" + p + ", " + b + ")", () -> desk.writtenKey(p, b), () -> model.writtenKey(p, b));
        case 8 -> same("beginOfBar(" + b + ")", () -> desk.beginOfBar(b), () -> model.beginOfBar(b));
        case 9 -> same("lengthOfBar(" + b + ")", () -> desk.lengthOfBar(b), () -> model.lengthOfBar(b));
        default -> same("faultsIfUp" + at, () -> desk.faultsIfUp(p, e), () -> model.faultsIfUp(p, e));
      }
    }

    void askSign() {
      int p = part();
      int b = bar();
      int s = sign(p, b);
      String in = "(" + p + ", " + b + ")";
      String at = "(" + p + ", " + b + ", " + s + ")";
      switch (random.nextInt(9)) {
        case 0 -> same("signs" + in, () -> desk.signs(p, b), () -> model.signs(p, b));
        case 1 -> same("eventOf" + at, () -> desk.eventOf(p, b, s), () -> model.eventOf(p, b, s));
        case 2 -> same("lengthOf" + at, () -> desk.lengthOf(p, b, s), () -> model.lengthOf(p, b, s));
        case 3 -> same("isTied" + at, () -> desk.isTied(p, b, s) ? 1 : 0, () -> model.isTied(p, b, s));
        case 4 -> same("shown" + at, () -> desk.shown(p, b, s), () -> model.shownIn(p, b, s, false));
        case 5 -> same("shownWritten" + at, () -> desk.shownWritten(p, b, s), () -> model.shownIn(p, b, s, true));
        case 6 -> same("beams" + in, () -> desk.beams(p, b), () -> model.beams(p, b));
        case 7 -> same("beamOf" + at, () -> desk.beamOf(p, b, s), () -> model.beamOf(p, b, s));
        default -> same("missing" + in, () -> desk.missing(p, b), () -> model.missing(p, b));
      }
    }

    void askMoment() {
      int p = part();
      int m = about(0, model.moments() - 1);
      switch (random.nextInt(10)) {
        case 0 -> same("moments()", () -> desk.moments(), () -> model.moments());
        case 1 -> same("tickOf(" + m + ")", () -> desk.tickOf(m), () -> model.tickOf(m));
        case 2 -> same("sounds(" + m + ", " + p + ")", () -> desk.sounds(m, p), () -> model.sounds(m, p));
        case 3 -> same("root(" + m + ")", () -> desk.root(m), () -> model.chord(m)[0]);
        case 4 -> same("kind(" + m + ")", () -> desk.kind(m), () -> model.chord(m)[1]);
        case 5 -> same("inversion(" + m + ")", () -> desk.inversion(m), () -> model.chord(m)[2]);
        case 6 -> same("faults()", () -> desk.faults(), () -> model.faults());
        default -> {
          int f = about(0, model.faults() - 1);
          same("kindOfFault(" + f + ")", () -> desk.kindOfFault(f), () -> model.fault(f).kind);
          same("tickOfFault(" + f + ")", () -> desk.tickOfFault(f), () -> model.fault(f).tick);
          same("partsOfFault(" + f + ")", () -> desk.partsOfFault(f), () -> model.fault(f).parts);
        }
      }
    }

    void askLine() {
      int b = bar();
      int w = random.nextBoolean() ? about(10, 400) : about(10, 60);
      switch (random.nextInt(6)) {
        case 0 -> same("bars()", () -> desk.bars(), () -> model.bars());
        case 1 -> same("widthOf(" + b + ")", () -> desk.widthOf(b), () -> model.widthOf(b));
        case 2 -> same("lines(" + w + ")", () -> desk.lines(w), () -> model.lines(w));
        case 3 -> same("lineOf(" + w + ", " + b + ")", () -> desk.lineOf(w, b), () -> model.lineOf(w, b));
        case 4 -> same("costOf(" + w + ")", () -> desk.costOf(w), () -> model.costOf(w));
        default -> same("meanHeight()", () -> Double.doubleToLongBits(desk.meanHeight()),
            () -> Double.doubleToLongBits(model.meanHeight()));
      }
    }

    /** So that an answer that was kept from before the writing comes to light. */
    void askAndWriteAndAskAgain() {
      ask();
      String call = lastCall;
      LongSupplier is = lastIs;
      LongSupplier due = lastDue;
      write();
      same(call, is, due);
    }

    void go(int calls) {
      if (style == 1 || seed % 7 == 0) {
        int beats = from(1, 3);
        same("setMetre(0, " + beats + ", 8)", () -> desk.setMetre(0, beats, 8), () -> model.setMetre(0, beats, 8));
      }
      int asking = from(1, 6);
      for (int call = 0; call < calls && !failed; call++) {
        if (random.nextInt(10) < asking) {
          ask();
        } else if (random.nextInt(3) == 0) {
          askAndWriteAndAskAgain();
        } else {
          write();
        }
        if (random.nextInt(80) == 0) {
          same("digest()", () -> desk.digest(), () -> model.digest());
        }
      }
      same("digest()", () -> desk.digest(), () -> model.digest());
    }
  }

  public static void main(String[] args) {
    int runs = args.length > 0 ? Integer.parseInt(args[0]) : 700;
    for (int seed = 0; seed < runs && wrong < 5; seed++) {
      new Run(seed).go(seed % 20 == 0 ? 400 : 20 + seed % 120);
    }
    System.out.println(wrong == 0 ? "desk and model agree" : "desk and model differ");
    if (wrong != 0) {
      System.exit(1);
    }
  }
}
