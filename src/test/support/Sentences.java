import java.io.IOException;
import java.nio.file.Files;
import java.nio.file.Path;
import java.util.LinkedHashSet;
import java.util.Set;
import java.util.regex.Matcher;
import java.util.regex.Pattern;

/**
 * The sentences of ../shared/DOC.md, each of which is to have a test of its own. A test is run under the sentence
 * that it is for; at the end each sentence that had none is told, and each test whose sentence isn't there.
 */
final class Sentences {
  static final int INDEX = 1;
  static final int ARGUMENT = 2;
  static final int STATE = 3;
  static final int MIN = Integer.MIN_VALUE;
  static final int MAX = Integer.MAX_VALUE;
  static final int[] NO_PART = {-1, 4, 5, 256, 65536, MIN, MAX};
  static final int[] NO_BAR = {-1, 24, 25, 256, 65536, MIN, MAX};
  static final int[] VALUES = {64, 32, 16, 8, 4, 96, 48, 24, 12, 6};

  private static final String[] KINDS = {
    "", "IndexOutOfBoundsException", "IllegalArgumentException", "IllegalStateException"
  };

  private static int wrong = 0;
  private static String now = "";

  interface Call {
    long on(ChoraleDesk desk);
  }

  interface NumberCall {
    long on(ChoraleDesk desk, int number);
  }

  private Sentences() { }

  // ---- answers

  private static void fail(String what) {
    wrong++;
    System.out.println(now + ": " + what);
  }

  static void due(String what, long got, long want) {
    if (got != want) {
      fail(what + " answered " + got + ", due is " + want);
    }
  }

  static void due(String what, String got, String want) {
    if (!got.equals(want)) {
      fail(what + " answered \"" + got + "\", due is \"" + want + "\"");
    }
  }

  static void dueDouble(String what, double got, double want) {
    if (got != want) {
      fail(what + " answered " + got + ", due is " + want);
    }
  }

  private static int thrownBy(ChoraleDesk desk, Call call) {
    try {
      call.on(desk);
      return 0;
    } catch (RuntimeException e) {
      // By the very class: the machine's exceptions are classes below these.
      for (int kind = INDEX; kind <= STATE; kind++) {
        if (e.getClass().getName().equals("java.lang." + KINDS[kind])) {
          return kind;
        }
      }
      fail("the machine threw " + e);
      return -1;
    }
  }

  /** A call that must throw, and change nothing. */
  static void refused(String what, int kind, ChoraleDesk desk, Call call) {
    String before = stateOf(desk);
    due(what + " throws (1 index, 2 argument, 3 state, 0 nothing)", thrownBy(desk, call), kind);
    due(what + " leaves the desk", stateOf(desk), before);
  }

  static void refusedEach(String what, int kind, ChoraleDesk desk, int[] numbers, NumberCall call) {
    for (int i = 0; i < numbers.length; i++) {
      int number = numbers[i];
      refused(what + " with " + number, kind, desk, d -> call.on(d, number));
    }
  }

  static void accepted(String what, ChoraleDesk desk, Call call) {
    due(what + " throws", thrownBy(desk, call), 0);
  }

  static int[] noneOf(int count) {
    return new int[] {-1, count, count + 1, count + 256, count + 65536, MIN, MAX};
  }

  // ---- desks

  /** Adds notes of one pitch; a value less than 0 is a rest. */
  static void add(ChoraleDesk desk, int part, int place, int... values) {
    for (int i = 0; i < values.length; i++) {
      if (values[i] < 0) {
        desk.addRest(part, -values[i]);
      } else {
        desk.addNote(part, place, 0, values[i]);
      }
    }
  }

  static ChoraleDesk deskWith(int part, int... values) {
    ChoraleDesk desk = new ChoraleDesk();
    add(desk, part, 35, values);
    return desk;
  }

  /** Rests up to a tick, which is even and not 2. */
  static void restUpTo(ChoraleDesk desk, int part, int tick) {
    int left = tick;
    if (left % 4 == 2) {
      desk.addRest(part, 6);
      left -= 6;
    }
    for (; left >= 100; left -= 96) {
      desk.addRest(part, 96);
    }
    for (; left >= 4; left -= 4) {
      desk.addRest(part, 4);
    }
  }

  /** All that can be set is set, and notes lie on both sides of each bound, so that each change can be seen. */
  static ChoraleDesk rich() {
    ChoraleDesk desk = new ChoraleDesk();
    desk.setMetre(0, 3, 4);
    desk.setMetre(1, 6, 8);
    desk.setMetre(3, 2, 2);
    desk.setKey(0, 2);
    desk.setKey(2, -5);
    for (int part = 0; part < 4; part++) {
      desk.setRange(part, 20, 40);
      desk.setShift(part, part - 1, 1 - part);
      add(desk, part, 19, 8, 8, 4, 4);
      add(desk, part, 20, 24, 4, 12);
      desk.addNote(part, 41, 1 - part, 8 * (1 << part));
      add(desk, part, 40, 12, 4, -8, 96, -16);
      desk.addNote(part, 39 - part, 2 - part, 6);
    }
    return desk;
  }

  // ---- answers as texts

  static String signsOf(ChoraleDesk desk, int part, int bar) {
    StringBuilder text = new StringBuilder();
    for (int sign = 0; sign < desk.signs(part, bar); sign++) {
      text.append(' ').append(desk.lengthOf(part, bar, sign)).append(desk.isTied(part, bar, sign) ? "~" : "");
    }
    return text.toString().trim();
  }

  static String eventsOf(ChoraleDesk desk, int part, int bar) {
    StringBuilder text = new StringBuilder();
    for (int sign = 0; sign < desk.signs(part, bar); sign++) {
      text.append(' ').append(desk.eventOf(part, bar, sign));
    }
    return text.toString().trim();
  }

  static String shownIn(ChoraleDesk desk, int part, int bar) {
    StringBuilder text = new StringBuilder();
    for (int sign = 0; sign < desk.signs(part, bar); sign++) {
      int shown = desk.shown(part, bar, sign);
      text.append(' ').append(shown == -3 ? "." : String.valueOf(shown));
    }
    return text.toString().trim();
  }

  static String shownWrittenIn(ChoraleDesk desk, int part, int bar) {
    StringBuilder text = new StringBuilder();
    for (int sign = 0; sign < desk.signs(part, bar); sign++) {
      int shown = desk.shownWritten(part, bar, sign);
      text.append(' ').append(shown == -3 ? "." : String.valueOf(shown));
    }
    return text.toString().trim();
  }

  static String beamsOf(ChoraleDesk desk, int part, int bar) {
    StringBuilder text = new StringBuilder();
    int most = -1;
    for (int sign = 0; sign < desk.signs(part, bar); sign++) {
      int beam = desk.beamOf(part, bar, sign);
      most = Math.max(most, beam);
      text.append(' ').append(beam == -1 ? "." : String.valueOf(beam));
    }
    due("beams(" + part + ", " + bar + ")", desk.beams(part, bar), most + 1);
    return text.toString().trim();
  }

  static String soundsOf(ChoraleDesk desk, int moment) {
    StringBuilder text = new StringBuilder();
    text.append(desk.tickOf(moment)).append(':');
    for (int part = 0; part < 4; part++) {
      text.append(' ').append(desk.sounds(moment, part));
    }
    return text.toString();
  }

  static String chordOf(ChoraleDesk desk, int moment) {
    return desk.root(moment) + " " + desk.kind(moment) + " " + desk.inversion(moment);
  }

  /** Each fault as its kind, tick and parts. */
  static String faultsOf(ChoraleDesk desk) {
    StringBuilder text = new StringBuilder();
    for (int fault = 0; fault < desk.faults(); fault++) {
      text.append(' ').append(desk.kindOfFault(fault)).append('@').append(desk.tickOfFault(fault));
      text.append(':').append(desk.partsOfFault(fault));
    }
    return text.toString().trim();
  }

  static String linesOf(ChoraleDesk desk, int width) {
    StringBuilder text = new StringBuilder();
    for (int bar = 0; bar < desk.bars(); bar++) {
      text.append(' ').append(desk.lineOf(width, bar));
    }
    return text.append(", ").append(desk.lines(width)).append(" for ").append(desk.costOf(width)).toString().trim();
  }

  private static String stateOf(ChoraleDesk desk) {
    return desk.digest() + " " + desk.meanHeight() + " " + faultsOf(desk) + " " + linesOf(desk, 30);
  }

  // ---- the document

  private static final Set<String> UNTESTED = new LinkedHashSet<>();
  private static String terms = "";

  private static boolean compared = true;

  private static String document() throws IOException {
    Path path = Path.of("..", "shared", "DOC.md");
    if (!Files.exists(path)) {
      compared = false;
      System.out.println("no document at " + path + ": the tests run, but are not compared with its sentences");
      return "";
    }
    return Files.readString(path);
  }

  private static String inOneLine(String text) {
    return text.replace("`", "").replaceAll("\\s+", " ").trim();
  }

  static void readTerms() throws IOException {
    String text = document();
    if (!compared) {
      return;
    }
    int from = text.indexOf("All numbers are whole");
    int to = text.indexOf("Ahead of the calls");
    int behind = text.indexOf("A method that throws an exception changes nothing.");
    if (from < 0 || to < from || behind < from || behind > to) {
      fail("the document has other terms");
      return;
    }
    terms = inOneLine(text.substring(from, to).replaceAll("(?m)^== .*$", "").replace("```text", ""));
  }

  static void readPromises() throws IOException {
    Matcher promise = Pattern.compile("(?s)## Promise (\\d+): (.*?)(?=\n## )").matcher(document());
    while (promise.find()) {
      String[] lines = promise.group(2).split("\n");
      for (int i = 0; i < lines.length; i++) {
        if (lines[i].matches("(`[^`]*`: )?Returns .*")) {
          UNTESTED.add(promise.group(1) + " Returns");
        } else if (lines[i].startsWith("Throws ")) {
          UNTESTED.add(promise.group(1) + " Throws " + inOneLine(lines[i]).split(" ")[1]);
        } else if (lines[i].matches("`[^`]*`: (?!- ).*")) {
          UNTESTED.add(promise.group(1) + " does");
        }
      }
    }
  }

  /** Runs the test of a sentence of the terms. */
  static void tells(String sentence, Runnable test) {
    now = sentence.length() > 60 ? sentence.substring(0, 60) + ".." : sentence;
    int at = terms.indexOf(sentence);
    if (at < 0 && compared) {
      fail("no such sentence is left in the document");
    } else if (at >= 0) {
      terms = terms.substring(0, at) + terms.substring(at + sentence.length());
    }
    test.run();
  }

  private static void promised(String sentence, Runnable test) {
    now = "promise " + sentence;
    if (!UNTESTED.remove(sentence) && compared) {
      fail("no such sentence is left in the document");
    }
    test.run();
  }

  static void does(int promise, Runnable test) {
    promised(promise + " does", test);
  }

  static void returns(int promise, Runnable test) {
    promised(promise + " Returns", test);
  }

  static void throwing(int promise, int kind, Runnable test) {
    promised(promise + " Throws " + KINDS[kind], test);
  }

  static void end(String right) {
    now = "the document";
    for (String sentence : UNTESTED) {
      fail("no test for promise " + sentence);
    }
    if (terms.matches(".*\\w.*")) {
      fail("no test for: " + terms.trim());
    }
    System.out.println(wrong == 0 ? right : wrong + " answers are not as due");
    if (wrong != 0) {
      System.exit(1);
    }
  }
}
