import java.math.BigInteger;
import java.nio.file.Files;
import java.nio.file.Path;
import java.util.Arrays;
import java.util.function.IntSupplier;
import java.util.regex.Matcher;
import java.util.regex.Pattern;

/**
 * The boundary cases of the document, each sentence that names one with a test of its own, its answer worked
 * out from the document. An edge quotes the words that it tests; out of reach is what no run of calls can come
 * to, and why. At the end every word of the document that marks a boundary must have been quoted.
 */
public final class AirTalkersEdgesTest {
  static final int BAD = -1, FULL = -2, FINDING = -3, STATE = -4, SPENT = -6, NONE = -9;
  static final int NOTHING = 1, BEYOND = 2, UNLIKE = 3, NOUGHT = 4, SIZE = 5;
  static final int LOW = Integer.MIN_VALUE, HIGH = Integer.MAX_VALUE;
  static final int TERMS = 0, PROMISES = 41;

  // ---- edges, and the document that they quote

  static final String[] sections = new String[PROMISES + 1];
  static final boolean[][] quoted = new boolean[PROMISES + 1][];
  static int promise = 0, edges = 0, wrong = 0;
  static String words = "";

  static void readDocument() throws Exception {
    String doc = Files.readString(Path.of("../shared/DOC.md")).replaceAll("\\s+", " ");
    for (int p = TERMS; p <= PROMISES; p++) {
      int from = doc.indexOf(p == TERMS ? "## Terms" : "## Promise " + p + ": ");
      int to = doc.indexOf(p == PROMISES ? "## Not promised" : "## Promise " + (p + 1) + ": ");
      sections[p] = doc.substring(from, to);
      quoted[p] = new boolean[to - from];
    }
  }

  static void quote(String some) {
    words = some;
    int from = sections[promise].indexOf(some);
    if (from < 0) {
      say("these words do not stand in the document");
      return;
    }
    Arrays.fill(quoted[promise], from, from + some.length(), true);
  }

  static void edge(String some, Runnable test) {
    quote(some);
    edges++;
    test.run();
  }

  /** A case that the document names and no run of calls comes to. */
  static void outOfReach(String some, String why) {
    quote(some);
    if (why.isEmpty()) say("out of reach, but it is not told why");
  }

  static void allIsQuoted() {
    Pattern marks = Pattern.compile("\\b(BAD|SIZE|NOTHING|BEYOND|UNLIKE|NOUGHT|STATE|SPENT|FULL|NONE|FAULT|FINDINGS?|LOST|GIVES UP|DROPPED"
        + "|\\d+ \\.\\. \\d+|\\d+ to \\d+|1, 0|0 by 1|64|199|200|201|at most|at first|At first|before|last|soonest|also|perhaps|this order"
        + "|cut|missing|none|nobody|lowest|least|fewest|the first|beyond|below|above|more than|less than|too|either|anew|so far|till then)\\b");
    for (promise = TERMS; promise <= PROMISES; promise++) {
      Matcher mark = marks.matcher(sections[promise]);
      while (mark.find()) {
        words = sections[promise].substring(Math.max(0, mark.start() - 30), Math.min(sections[promise].length(), mark.end() + 30));
        if (!quoted[promise][mark.start()]) say("no edge quotes '" + mark.group() + "' here");
      }
    }
  }

  static void say(String what) {
    wrong++;
    System.out.println((promise == TERMS ? "terms" : "promise " + promise) + ", '" + words + "': " + what);
  }

  // ---- calls and what is due

  static void due(String call, long got, long want) {
    if (got != want) say(call + " answered " + got + ", due is " + want);
  }

  static void told(AirTalkers x, String call, int got, int want, int asked) {
    due(call, got, want);
    due("asked() behind " + call, x.asked(), asked);
  }

  static void ratio(AirTalkers x, String call, int got, long upper, long lower) {
    due(call, got, 1);
    due("upper() behind " + call, x.upper(), upper);
    due("lower() behind " + call, x.lower(), lower);
  }

  /** All that a refused call must leave as it is, whichever it is. */
  static long[] state(AirTalkers x) {
    return new long[] {x.digest(), x.asked(), x.upper(), x.lower()};
  }

  static void unchanged(AirTalkers x, String call, long[] before) {
    String[] names = {"digest()", "asked()", "upper()", "lower()"};
    long[] behind = state(x);
    for (int k = 0; k < 4; k++) due(names[k] + " behind " + call, behind[k], before[k]);
  }

  static int sumOfFindings(AirTalkers x) {
    int sum = 0;
    for (int f = 1; f <= 5; f++) sum += x.findings(f);
    return sum;
  }

  /** Also for NONE, which changes nothing, too. */
  static void refused(AirTalkers x, int want, String call, IntSupplier make) {
    long[] before = state(x);
    int finding = x.finding(), sum = sumOfFindings(x);
    due(call, make.getAsInt(), want);
    unchanged(x, call, before);
    due("finding() behind " + call, x.finding(), finding);
    due("findings() behind " + call, sumOfFindings(x), sum);
  }

  static void found(AirTalkers x, int f, String call, IntSupplier make) {
    long[] before = state(x);
    int often = x.findings(f), sum = sumOfFindings(x);
    due(call, make.getAsInt(), FINDING);
    unchanged(x, call, before);
    due("finding() behind " + call, x.finding(), f);
    due("findings(" + f + ") behind " + call, x.findings(f), often + 1);
    due("all findings() behind " + call, sumOfFindings(x), sum + 1);
  }

  // ---- what is made

  static void write(AirTalkers x, int t, String text) {
    x.text(t, text.length());
    for (int i = 0; i < text.length(); i++) x.put(t, i, text.charAt(i));
  }

  static AirTalkers air(String text) {
    AirTalkers x = new AirTalkers();
    write(x, 0, text);
    x.air(0);
    return x;
  }

  static AirTalkers behind(int slots, AirTalkers x) {
    for (int n = 0; n < slots; n++) x.slot();
    return x;
  }

  /** LETTERS more for each STATION; as many DEEDS as it takes by 9. */
  static AirTalkers more(AirTalkers x, int... letters) {
    for (int i = 0; i < letters.length; i++) {
      for (int n = letters[i]; n > 0; n -= 9) x.give(i, Math.min(9, n));
    }
    return x;
  }

  /**
   * By s8 and s9 there is a CLASH in the SLOTS 0, 10, 20, .. and s8 alone is HEARD in 9, 19, 29, ..;
   * so b LETTERS of it and then c of the other one are done behind 10 b + c SLOTS (b, c above 0).
   */
  static AirTalkers tens(int b, int c) {
    return more(air("s810 s910 p010"), b, c);
  }

  /** 40 DEEDS, of which the last one is a SLOT. */
  static AirTalkers full(String text) {
    return behind(40, air(text));
  }

  static void lay(AirTalkers x, int r, int... numbers) {
    x.row(r, numbers.length);
    for (int i = 0; i < numbers.length; i++) x.lay(r, i, numbers[i]);
  }

  static int of(AirTalkers x, int i, int what) {
    return x.station(i, what) == 1 ? x.asked() : 12345;
  }

  static void is(AirTalkers x, int i, int letters, int wait, int clashes) {
    due("LETTERS of " + i, of(x, i, 3), letters);
    due("WAIT of " + i, of(x, i, 4), wait);
    due("CLASHES of " + i, of(x, i, 5), clashes);
  }

  static int place(AirTalkers x, int r, int i) {
    return x.at(r, i) == 1 ? x.asked() : 12345;
  }

  static void places(AirTalkers x, int r, int... want) {
    for (int i = 0; i < want.length; i++) due("place " + i + " of ROW " + r, place(x, r, i), want[i]);
    due("the place behind the last one of ROW " + r, x.at(r, want.length), FINDING);
  }

  // ---- terms: what is refused

  static void refusals() {
    edge("Refused is, the first of these that fits, in this order: BAD -1 (a number that is none, or not as told), FULL -2",
        AirTalkersEdgesTest::badAheadOfFull);
    edge("STATE -4 (not now)", AirTalkersEdgesTest::badAheadOfState);
    edge("SPENT -6 (more than told)", () -> {
      AirTalkers x = more(air("p019 p010"), 21);
      refused(x, SPENT, "give(0, 9)", () -> x.give(0, 9));
      refused(x, BAD, "BAD ahead of SPENT: give(0, 10)", () -> x.give(0, 10));
    });
    edge("FINDING -3 (finding() tells which), unless a call says so otherwise. NONE -9.", AirTalkersEdgesTest::badAheadOfFinding);
    outOfReach("FULL -2, STATE -4 (not now), SPENT -6 (more than told), FINDING -3",
        "Of these four no two can be told apart by their order here: slot(), give(), drop(), first(), lots() say 'FULL last', "
        + "air() says 'STATE behind NOTHING', and no other call has two of them.");
    edge("What is refused changes nothing but finding(), findings().", AirTalkersEdgesTest::refusedChangesNothing);
  }

  static void badAheadOfFull() {
    AirTalkers x = full("p012 p010");
    refused(x, FULL, "give(0, 1)", () -> x.give(0, 1));
    refused(x, BAD, "give(2, 1)", () -> x.give(2, 1));
    refused(x, BAD, "give(0, 0)", () -> x.give(0, 0));
    refused(x, BAD, "drop(2)", () -> x.drop(2));
    refused(x, BAD, "first(2, 1)", () -> x.first(2, 1));
    refused(x, BAD, "first(0, 10)", () -> x.first(0, 10));
    refused(x, BAD, "lots(21, 1)", () -> x.lots(21, 1));
    refused(x, BAD, "lots(1, 0)", () -> x.lots(1, 0));
  }

  static void badAheadOfState() {
    AirTalkers x = new AirTalkers();
    refused(x, STATE, "keep(0)", () -> x.keep(0));
    refused(x, BAD, "keep(3)", () -> x.keep(3));
    refused(x, BAD, "most(0)", () -> x.most(0));
    refused(x, BAD, "silence(41)", () -> x.silence(41));
    refused(x, BAD, "duel(4)", () -> x.duel(4));
    refused(x, BAD, "odds(41, 0)", () -> x.odds(41, 0));
    refused(x, BAD, "mid(0, 13)", () -> x.mid(0, 13));
    refused(x, BAD, "lots(0, 1)", () -> x.lots(0, 1));
    refused(x, BAD, "lots(1, 0)", () -> x.lots(1, 0));
    AirTalkers y = air("p010 p010");
    refused(y, STATE, "drop(0) without LETTERS", () -> y.drop(0));
    refused(y, BAD, "drop(2)", () -> y.drop(2));
    refused(y, STATE, "first(0, 0)", () -> y.first(0, 0));
    refused(y, BAD, "first(2, 0)", () -> y.first(2, 0));
  }

  static void badAheadOfFinding() {
    AirTalkers x = air("p010 p010");
    refused(x, BAD, "row(6, -1)", () -> x.row(6, -1));
    refused(x, BAD, "text(4, -1)", () -> x.text(4, -1));
    refused(x, BAD, "lay(-1, -1, 0)", () -> x.lay(-1, -1, 0));
    refused(x, BAD, "at(6, -1)", () -> x.at(6, -1));
    refused(x, BAD, "copy(6, 0, 5, 0, -1)", () -> x.copy(6, 0, 5, 0, -1));
    refused(x, BAD, "put(4, -1, 0)", () -> x.put(4, -1, 0));
    refused(x, BAD, "mark(2, 1)", () -> x.mark(2, 1));
    refused(x, BAD, "mark(0, 6)", () -> x.mark(0, 6));
    refused(x, BAD, "kinds(2, 5)", () -> x.kinds(2, 5));
    refused(x, BAD, "firsts(2, 5)", () -> x.firsts(2, 5));
    refused(x, BAD, "test(0, 6)", () -> x.test(0, 6));
    due("NONE", AirTalkers.NONE, -9);
    due("test() that fits no KIND", testOfNoKind(x), -9);
    due("BAD", AirTalkers.BAD, -1);
    due("FULL", AirTalkers.FULL, -2);
    due("FINDING", AirTalkers.FINDING, -3);
    due("STATE", AirTalkers.STATE, -4);
    due("SPENT", AirTalkers.SPENT, -6);
  }

  static int testOfNoKind(AirTalkers x) {
    lay(x, 0, 7);
    return x.test(0, 0);
  }

  /** Two alike: one is asked what is refused in all ways, then both answer alike. */
  static void refusedChangesNothing() {
    AirTalkers x = busy(), y = busy();
    long[] got = {
      x.row(0, 41), x.row(0, -1), x.lay(0, 9, 9), x.lay(5, 0, 9), x.at(0, -1), x.tear(5), x.copy(0, 0, 0, 1, 9), x.copy(0, 0, 5, 0, 1),
      x.copy(0, 0, 0, 0, -1), x.mean(1), x.mean(5), x.text(0, 61), x.text(0, -1), x.put(0, 60, 9), x.put(3, 0, 9), x.fault(3), x.air(3), x.air(1),
      x.station(4, 0), x.station(0, 7), x.mark(0, 1), x.mark(0, 0), x.slot(), x.give(1, 1), x.give(0, 9), x.give(0, 10), x.drop(0), x.drop(3),
      x.first(0, 9), x.first(0, 10), x.undo(41), x.undo(-1), x.keep(3), x.on(1), x.on(3), x.later(0, 101), x.most(101), x.best(4), x.silence(41),
      x.kinds(0, 1), x.kinds(0, 5), x.firsts(0, 2), x.firsts(0, 6), x.test(0, 2), x.test(0, 1), x.duel(4), x.odds(41, 0), x.mid(0, 13),
      x.lots(1, 1), x.lots(0, 1), x.count(12), x.findings(0)};
    for (int k = 0; k < got.length; k++) due("refused call " + k, got[k] < 0 && got[k] != NONE ? 1 : 0, 1);
    long[] here = answers(x), there = answers(y);
    for (int k = 0; k < here.length; k++) due("answer " + k + " behind refused calls", here[k], there[k]);
  }

  static AirTalkers busy() {
    AirTalkers x = air("p019 y012 l232 y010");
    write(x, 1, "p010");
    lay(x, 0, 5, 6, 7);
    x.row(1, 0);
    lay(x, 2, 8);
    more(x, 21);
    x.keep(0);
    behind(36, x);
    x.first(0, 9);
    x.odds(3, 3);
    x.at(0, 2);
    return x;
  }

  static long[] answers(AirTalkers x) {
    return new long[] {x.asked(), x.upper(), x.lower(), x.digest(), x.talks(), x.later(0, 9), x.asked(), x.ends(), x.duel(1), x.undo(20), x.digest(),
      x.undo(2), x.digest(), x.on(0), x.digest(), x.undo(0), x.digest(), x.fault(0), x.air(0), x.digest(), x.on(0)};
  }

  static void findingsOfTerms() {
    AirTalkers x = air("p010 p010");
    edge("FINDINGS: 1 NOTHING (a ROW, a TEXT, a kept AIR that is missing)", () -> {
      found(x, 1, "a ROW that is missing", () -> x.tear(0));
      found(x, 1, "a TEXT that is missing", () -> x.fault(1));
      found(x, 1, "a kept AIR that is missing", () -> x.on(0));
    });
    edge("2 BEYOND (a place that there is not)", () -> {
      x.row(0, 1);
      found(x, 2, "a place of a ROW", () -> x.at(0, 1));
      found(x, 2, "a place of a TEXT", () -> x.put(0, 9, 1));
    });
    edge("3 UNLIKE (a STATION of another KIND; a number that is none)", () -> {
      found(x, 3, "a STATION of another KIND", () -> x.mark(0, 1));
      x.lay(0, 0, 8);
      found(x, 3, "a number that is none", () -> x.kinds(0, 0));
    });
    edge("4 NOUGHT (shared among none)", () -> {
      x.row(1, 0);
      found(x, 4, "shared among none", () -> x.mean(1));
    });
    edge("5 SIZE (fewer than none; not as many as due)", () -> {
      found(x, 5, "a ROW of fewer than none", () -> x.row(0, -1));
      found(x, 5, "a ROW that has not as many as due", () -> x.kinds(0, 1));
    });
  }

  static void lowestTerms() {
    edge("Chances, means are told by upper(), lower(), in lowest terms, the lower number above 0 (0 by 1).", () -> {
      AirTalkers x = air("s011 s011");
      ratio(x, "odds(1, 6): 108 of 144", x.odds(1, 6), 3, 4);
      ratio(x, "odds(1, 0): 0 of 144", x.odds(1, 0), 0, 1);
      ratio(x, "odds(1, 12): 144 of 144", x.odds(1, 12), 1, 1);
      ratio(x, "mid(1, 6): 72 of 144", x.mid(1, 6), 1, 2);
      ratio(x, "mid(1, 12): 0 of 144", x.mid(1, 12), 0, 1);
      AirTalkers y = air("s019 s010");
      ratio(y, "mid(9, 0): 1296 of 144", y.mid(9, 0), 9, 1);
      AirTalkers seven = air("s011s011s011s011s011s011s011");
      ratio(seven, "odds(0, 1): 1 of 12 to the 7", seven.odds(0, 1), 1, 35831808);
      ratio(seven, "mid(1, 5): 7 times 7 times 5 to the 6 of 12 to the 7", seven.mid(1, 5), 765625, 35831808);
    });
    edge("Sets (of STATIONS, KINDS, numbers 0 .. 9) are told by bits.", () -> {
      AirTalkers x = air("s011s011s011s011s011s011s011");
      due("talks(): all of seven", x.talks(), 127);
      lay(x, 0, 7);
      due("kinds(): all", x.kinds(0, 0), 63);
      due("firsts(): all", x.firsts(0, 0), 1023);
    });
  }

  // ---- terms: rows, texts, airs

  static void sizes() {
    edge("ROWS 0 .. 5 are rows of 0 to 40 ints", () -> {
      AirTalkers x = new AirTalkers();
      for (int r = 0; r < 6; r++) due("row(" + r + ", ..)", x.row(r, r % 2 * 40), r % 2 * 40);
      due("ROWS that are there", x.count(7), 6);
      refused(x, BAD, "row(6, 0)", () -> x.row(6, 0));
      refused(x, BAD, "row(-1, 0)", () -> x.row(-1, 0));
      refused(x, BAD, "row(0, 41)", () -> x.row(0, 41));
      for (int r = 0; r < 6; r++) due("lay(" + r + ", 39, 1)", x.lay(r, 39, r), r % 2 == 1 ? 1 : FINDING);
      for (int r = 1; r < 6; r += 2) due("place 39 of ROW " + r, place(x, r, 39), r);
    });
    edge("TEXTS 0 .. 3 rows of 0 to 60 bytes", () -> {
      AirTalkers x = new AirTalkers();
      for (int t = 0; t < 4; t++) due("text(" + t + ", ..)", x.text(t, t % 2 * 60), t % 2 * 60);
      due("TEXTS that are there", x.count(8), 4);
      refused(x, BAD, "text(4, 0)", () -> x.text(4, 0));
      refused(x, BAD, "text(-1, 0)", () -> x.text(-1, 0));
      refused(x, BAD, "text(0, 61)", () -> x.text(0, 61));
      for (int t = 0; t < 4; t++) due("put(" + t + ", 59, ..)", x.put(t, 59, t), t % 2 == 1 ? 1032 : FINDING);
      for (int t = 1; t < 4; t += 2) due("byte 59 of TEXT " + t, x.put(t, 59, 0), 1000 + t);
    });
    edge("or missing (at first).", () -> {
      AirTalkers x = new AirTalkers();
      for (int r = 0; r < 6; r++) due("tear(" + r + ")", x.tear(r), FINDING);
      for (int t = 0; t < 4; t++) due("fault(" + t + ")", x.fault(t), FINDING);
      due("findings(NOTHING)", x.findings(NOTHING), 10);
    });
    edge("AN AIR (without STATIONS at first)", () -> {
      AirTalkers x = new AirTalkers();
      due("STATIONS", x.count(0), 0);
      refused(x, STATE, "slot()", () -> x.slot());
      refused(x, BAD, "station(0, 0)", () -> x.station(0, 0));
    });
  }

  /** A TEXT's FAULT, and that air() is refused just if there is one. */
  static void fault(String text, int want) {
    AirTalkers x = new AirTalkers();
    write(x, 3, text);
    due("fault of '" + text + "'", x.fault(3), want);
    due("whether air() of '" + text + "' is STATE", x.air(3) == STATE ? 1 : 0, want == NONE ? 0 : 1);
    due("STATIONS behind air() of '" + text + "'", x.count(0) > 1 ? 1 : 0, want == NONE ? 1 : 0);
  }

  static final String SEVEN = "p010p010p010p010p010p010p010";

  static void faults() {
    edge("blanks (32) ahead, between, behind as many as wanted, none within items", () -> {
      fault("p010p010", NONE);
      fault(" ".repeat(52) + "p010p010", NONE);
      fault("p010" + " ".repeat(52) + "p010", NONE);
      fault("p010p010" + " ".repeat(52), NONE);
      fault(" p010  p010   ", NONE);
      fault("p 10 p010", 1);
      fault("p0 0 p010", 2);
      fault("p01 p010", 3);
      for (char sign : new char[] {0, '\t', '\n', 31, 33, 127, 160}) fault("p010" + sign + "p010", 4);
    });
    edge("STATIONS (2 to 7; 0, 1, .. as they come)", () -> {
      fault("p010", 4);
      fault("p010p010", NONE);
      fault(SEVEN, NONE);
      fault(SEVEN + "p010", 28);
      AirTalkers x = air("p010d120o230s340l450y560p670");
      for (int i = 0; i < 7; i++) due("FIRST of " + i, of(x, i, 1), i);
    });
    edge("each a letter, its FIRST wait (0 .. 9)", () -> {
      fault("p010p910", NONE);
      fault("p/10p010", 1);
      fault("p:10p010", 1);
      fault("pp10p010", 1);
    });
    edge("its STEP (1 .. 9)", () -> {
      fault("p010p090", NONE);
      fault("p000p010", 2);
      fault("p0:0p010", 2);
      fault("p0/0p010", 2);
      fault("p010p000", 6);
    });
    edge("its LETTERS (0 .. 9; one figure each)", () -> {
      fault("p010p019", NONE);
      fault("p01/p010", 3);
      fault("p01:p010", 3);
      fault("p0110p010", 4);
      fault("p010p0110", 8);
    });
    edge("A FAULT is the first place at which it can't go on so (a letter, a figure that is none such, an eighth STATION: its place;", () -> {
      fault("x010p010", 0);
      fault("p010 x000 p000", 5);
      fault("p000 x010", 2);
      fault(SEVEN + "p", 28);
      fault(SEVEN + "x", 28);
      fault(SEVEN + "  p010", 30);
      fault(SEVEN + " ".repeat(31) + "p", 59);
      fault(SEVEN.substring(0, 24) + "p01x" + "p010", 27);
    });
    edge("the TEXT's size, if its end comes too early, or there are less than 2 STATIONS, or blanks alone).", () -> {
      fault("p", 1);
      fault("p0", 2);
      fault("p01", 3);
      fault("p010p", 5);
      fault("p010p0", 6);
      fault("p010p01", 7);
      fault("p010p010 p", 10);
      fault(" ".repeat(57) + "p01", 60);
      fault("p010 ", 5);
      fault("   p010   ", 10);
      fault("", 0);
      fault(" ", 1);
      fault(" ".repeat(60), 60);
    });
    edge("KINDS of STATIONS and letters: 0 PLAIN (p, 112), 1 DOUBLE (d, 100; a PLAIN one), 2 POLITE (o, 111; a PLAIN one), "
        + "3 STUBBORN (s, 115; a PLAIN one), 4 LOTTERY (l, 108; a DOUBLE one), 5 SHY (y, 121; a POLITE one).", AirTalkersEdgesTest::letters);
  }

  static void letters() {
    String known = "pdosly";
    for (int c = 0; c < 256; c++) {
      AirTalkers x = air("p010?010");
      x.put(0, 4, c);
      int kind = known.indexOf((char) c);
      due("fault with the letter " + c, x.fault(0), c == ' ' ? 5 : kind < 0 ? 4 : NONE);
      if (kind >= 0) due("KIND of the letter " + c, x.air(0) == 2 ? of(x, 1, 0) : NONE, kind);
    }
  }

  // ---- terms: wants, waits

  static void waits() {
    edge("A STATION WANTS to talk, if it has LETTERS and its WAIT is 0", () -> {
      AirTalkers x = air("p013 p113 p010");
      int[] wants = {1, 1, 0};
      for (int i = 0; i < 3; i++) due("WANTS " + i, of(x, i, 6), wants[i]);
      x.slot();
      due("who WAITS 1", of(x, 0, 4) * 10 + of(x, 0, 6), 10);
      x.slot();
      due("who WAITS 0", of(x, 0, 4) * 10 + of(x, 0, 6), 1);
      due("who WAITS 1 yet", of(x, 1, 4) * 10 + of(x, 1, 6), 10);
      due("talks()", x.talks(), 1);
    });
    edge("a POLITE one so, but not in a SLOT behind one in which anybody talked.", () -> {
      AirTalkers x = air("o012 p012");
      due("SLOT 0, behind none", x.talks(), 3);
      x.drop(1);
      x.slot();
      due("behind one in which it talked itself", x.talks(), 0);
      x.slot();
      due("behind one in which nobody talked", x.talks(), 1);
    });
    edge("Behind the CLASH number c (1, 2, .. in a row) a PLAIN one WAITS FIRST and c times STEP (64 in all at most)", AirTalkersEdgesTest::plainWaits);
    outOfReach("a PLAIN one WAITS FIRST and c times STEP (64 in all at most)",
        "By its own WAIT a PLAIN one can't show it: 65 takes CLASH 7 (STEP 9, FIRST 2; or 8 and 9), which comes in SLOT 201 at the soonest, and what is "
        + "asked aside ends by SLOT 240, ahead of 201 + 65; so it is shown by mark(), which asks for 'a PLAIN one alike'.");
    edge("a DOUBLE one FIRST and STEP times 2 to the c less 1 (64 in all at most)", AirTalkersEdgesTest::doubleWaits);
    edge("a STUBBORN one FIRST alone", () -> {
      AirTalkers x = behind(30, air("s091 s911 s091"));
      is(x, 0, 1, 0, 30);
      is(x, 1, 1, 0, 3);
      due("the CLASH in SLOT 30", x.slot(), 3);
      is(x, 1, 1, 9, 4);
    });
    edge("a LOTTERY one: with w what a DOUBLE one WAITS, the number of the SLOT in which the CLASH is times its STEP, left over by w and 1 (0 .. w)",
        AirTalkersEdgesTest::lotteryWaits);
    edge("a SHY one as a POLITE one, but GIVES UP at CLASH 4: a LETTER of it is LOST, its CLASHES are 0 then, it WAITS 0.", AirTalkersEdgesTest::shyGivesUp);
  }

  /** Two STUBBORN ones of one FIRST meet each time: mark() tells a PLAIN one's WAIT less their FIRST. */
  static void plainWaits() {
    AirTalkers zero = behind(6, air("s091 s091"));
    due("CLASH 7: 63", zero.mark(0, 3), 63);
    due("CLASH 8: 72, so 64", behind(1, zero).mark(0, 3), 64);
    due("CLASH 31: 279, so 64", behind(23, zero).mark(0, 3), 64);
    due("CLASH 41: 369, so 64", behind(10, zero).mark(0, 3), 64);
    zero.undo(6);
    zero.first(0, 1);
    due("CLASH 7 and FIRST 1: 64", zero.mark(0, 3), 63);
    zero.first(0, 2);
    due("CLASH 7 and FIRST 2: 65, so 64", zero.mark(0, 3), 62);
    AirTalkers inRow = air("p013 p910 p010");
    inRow.give(2, 1);
    inRow.slot();
    is(inRow, 0, 3, 1, 1);
    inRow.drop(2);
    behind(2, inRow);
    is(inRow, 0, 2, 0, 0);
    inRow.give(2, 1);
    inRow.slot();
    is(inRow, 0, 2, 1, 1);
  }

  /** d0 of STEP 7 and s0 meet in the SLOTS 0, 8, 23, 52; s0 is done in 54; d0 is HEARD alone behind its WAIT. */
  static void doubleWaits() {
    AirTalkers x = behind(8, air("d071 s019"));
    is(x, 1, 2, 0, 0);
    behind(16, more(x, 0, 18));
    is(x, 0, 1, 28, 3);
    is(x, 1, 6, 0, 1);
    more(x, 0, 24);
    int[][] dues = {{0, 128, 86}, {7, 128, 93}, {8, 128, 94}, {9, 127, 94}};
    for (int[] one : dues) {
      x.first(0, one[0]);
      due("mark(0, 1), FIRST " + one[0], x.mark(0, 1), one[1]);
      due("ends(), FIRST " + one[0], x.ends(), one[2]);
    }
    manyDoublings();
  }

  /**
   * STEP times 2 to the 32 is beyond an int: a STUBBORN one with so many CLASHES, tried as another KIND, tells. PLAIN
   * ones, DOUBLE ones (64) and LOTTERY ones (the SLOT, left over by 65) would all WAIT 20 or more behind the next one.
   */
  static void manyDoublings() {
    for (int clashes = 24; clashes < 40; clashes++) {
      AirTalkers x = behind(clashes, air("s011 s011"));
      int[] talked = new int[20];
      talked[0] = 2;
      talked[1] = 1;
      lay(x, 0, talked);
      due("kinds() by a WAIT of 20 or more at CLASH " + (clashes + 1), x.kinds(0, 0), 1 + 2 + 16);
    }
  }

  static void lotteryWaits() {
    AirTalkers x = behind(1, air("l010 p010"));
    more(x, 1, 1).slot();
    is(x, 0, 1, 1, 1);
    AirTalkers y = behind(2, air("l010 p010"));
    more(y, 1, 1).slot();
    is(y, 0, 1, 0, 1);
    AirTalkers zero = behind(1, air("l999 p999"));
    is(zero, 0, 9, 0, 1);
    AirTalkers z = air("l091 s011 s011");
    int[] clashIn = {0, 1, 11, 37}, wait = {0, 9, 25, 8};
    for (int k = 0; k < 4; k++) {
      behind(clashIn[k] - z.count(1), z);
      due("mark(0, 4) in SLOT " + clashIn[k], z.mark(0, 4), Math.min(64, 9 << k) - wait[k]);
      z.slot();
      is(z, 0, 1, wait[k], k + 1);
    }
  }

  /** Two alike meet in the SLOTS 0, 2, 5, 9: WAITS 1, 2, 3, and then they give up. */
  static void shyGivesUp() {
    AirTalkers x = behind(6, air("y011 y012"));
    is(x, 0, 1, 3, 3);
    behind(3, x);
    is(x, 0, 1, 0, 3);
    due("LOST ahead", x.count(5), 0);
    due("the CLASH number 4", x.slot(), 2);
    is(x, 0, 0, 0, 0);
    is(x, 1, 1, 0, 0);
    due("LOST", x.count(5), 2);
    due("HEARD", x.count(4), 0);
    due("behind one in which anybody talked", x.slot(), 0);
    due("then", x.slot(), 1);
    due("HEARD", x.count(4), 1);
    AirTalkers heard = air("y014 p910");
    for (int n = 0; n < 4; n++) {
      heard.give(1, 1);
      heard.slot();
      heard.drop(1);
      behind(3, heard);
    }
    due("LOST by four CLASHES that are not in a row", heard.count(5), 0);
    due("HEARD between them", heard.count(4), 4);
    AirTalkers polite = behind(10, air("o011 o011"));
    is(polite, 0, 1, 4, 4);
    due("a POLITE one does not give up", polite.count(5), 0);
    triedAsShy();
  }

  /**
   * Two STUBBORN ones of FIRST 1 meet in each second SLOT. One tried as another KIND has its CLASHES: a SHY one with 3
   * gives up at the next one; with 4 the next one is CLASH 5, and 'at CLASH 4' is no more.
   */
  static void triedAsShy() {
    AirTalkers three = behind(5, air("s111 s111"));
    lay(three, 0, 0, 2, 0, 1, 0, 0, 0, 1);
    due("kinds() by a WAIT of 5", three.kinds(0, 0), 1 + 4);
    lay(three, 0, 0, 2, 0, 1, 0, 0, 0, 0);
    due("kinds() by a WAIT of more, or giving up", three.kinds(0, 0), 2 + 16 + 32);
    AirTalkers four = behind(7, air("s111 s111"));
    lay(four, 0, 0, 2, 0, 1, 0, 0, 0, 0, 1);
    due("kinds() by a WAIT of 6", four.kinds(0, 0), 1 + 4 + 32);
  }

  static void slotsOfTerms() {
    edge("At first it is SLOT 0, nobody talked, WAITS, CLASHES 0.", () -> {
      AirTalkers x = air("p992 o992 y012 y012");
      x.drop(0);
      x.drop(1);
      behind(2, x);
      due("LOST behind 8 more SLOTS, told aside", x.later(2, 8), 1);
      x.air(0);
      due("the SLOT", x.count(1), 0);
      due("whether anybody talked", x.count(6), 0);
      due("HEARD and LOST", x.count(4) + x.count(5), 0);
      for (int i = 0; i < 4; i++) is(x, i, 2, 0, 0);
      due("talks(): the POLITE ones, too", x.talks(), 15);
      due("all meet, told aside", x.later(0, 1), 2);
      x.air(0);
      for (int i = 0; i < 4; i++) is(x, i, 2, 0, 0);
    });
    edge("In a SLOT all who WANT talk. If one does, a LETTER of it is HEARD (it has one less), its CLASHES are 0", () -> {
      AirTalkers x = behind(1, air("p011 p911"));
      is(x, 0, 1, 1, 1);
      behind(2, x);
      is(x, 0, 0, 0, 0);
      is(x, 1, 1, 8, 1);
      due("HEARD", x.count(4), 1);
      due("nobody talks", x.slot(), 0);
      is(x, 0, 0, 0, 0);
      is(x, 1, 1, 7, 1);
    });
    edge("if more do, each has a CLASH more and WAITS, as told, from the next SLOT on. "
        + "Of all who WAITED ahead of the SLOT (WAIT above 0) it is one less behind it.", () -> {
      AirTalkers x = behind(1, air("p112 s012 s010 p019"));
      is(x, 0, 2, 2, 1);
      is(x, 1, 2, 0, 1);
      is(x, 2, 0, 0, 0);
      is(x, 3, 9, 1, 1);
      behind(2, x);
      is(x, 0, 2, 0, 1);
      is(x, 1, 1, 0, 1);
      is(x, 2, 0, 0, 0);
      is(x, 3, 9, 2, 2);
    });
    outOfReach("a SLOT goes by (199 at most)",
        "Each SLOT is a DEED and there are 40 DEEDS at most, kept AIRS and what is undone included: SLOT 40 is the last one. "
        + "What comes is asked aside, and goes on beyond SLOT 199.");
    edge("a STATION gets n LETTERS (1 .. 9; 30 in all it has at most)", () -> {
      AirTalkers x = air("p019 p010");
      refused(x, BAD, "give(0, 0)", () -> x.give(0, 0));
      due("give(0, 1)", x.give(0, 1), 10);
      due("give(0, 9)", x.give(0, 9), 19);
      refused(x, BAD, "give(0, 10)", () -> x.give(0, 10));
      due("give(0, 9)", x.give(0, 9), 28);
      refused(x, SPENT, "give(0, 3)", () -> x.give(0, 3));
      due("give(0, 2)", x.give(0, 2), 30);
      refused(x, SPENT, "give(0, 1)", () -> x.give(0, 1));
    });
    edge("its queue is DROPPED (it has none, CLASHES, WAIT 0), its FIRST wait is another one.", () -> {
      AirTalkers x = behind(1, air("p992 p992"));
      is(x, 0, 2, 18, 1);
      x.drop(0);
      is(x, 0, 0, 0, 0);
      is(x, 1, 2, 18, 1);
      due("first(1, 0)", x.first(1, 0), 9);
      is(x, 1, 2, 18, 1);
      due("FIRST", of(x, 1, 1), 0);
    });
    edge("These are DEEDS (40 at most).", () -> {
      AirTalkers x = air("p011 p010");
      for (int n = 0; n < 40; n += 4) {
        x.slot();
        x.give(0, 1);
        x.drop(0);
        x.first(1, n / 4 % 2 + 1);
      }
      due("DEEDS", x.count(2), 40);
      refused(x, FULL, "slot()", () -> x.slot());
      refused(x, FULL, "give(0, 1)", () -> x.give(0, 1));
      refused(x, FULL, "first(1, 0)", () -> x.first(1, 0));
      refused(x, FULL, "lots(1, 1)", () -> x.lots(1, 1));
      due("undo(39)", x.undo(39), 1);
      due("the 40th DEED", x.give(0, 1), 1);
      refused(x, FULL, "drop(0)", () -> x.drop(0));
    });
  }

  static void asides() {
    edge("what comes (aside: nothing else done; beyond SLOT 199, too).", () -> {
      AirTalkers x = behind(36, more(air("s819 s919 p010"), 12, 17));
      long digest = x.digest();
      due("ends() from SLOT 36 on, in SLOT 235", x.ends(), 200);
      told(x, "best(2)", x.best(2), 0, 200);
      due("duel(0)", x.duel(0), 200);
      x.talks();
      x.later(0, 100);
      x.clash();
      x.most(100);
      due("digest() behind what is asked aside", x.digest(), digest);
      due("undo(0)", x.undo(0), 40);
      due("ends() from SLOT 0 on", x.ends(), 99);
      lotteryBeyond();
    });
    edge("what to do (aside).", () -> {
      AirTalkers x = behind(1, air("p122 l232 y112"));
      long digest = x.digest();
      x.best(0);
      x.silence(40);
      due("digest()", x.digest(), digest);
      due("who is next", x.talks(), 2);
    });
    edge("(a ROW of 1 to 20 numbers 0 .. 7: how many talked in the next SLOTS).", () -> {
      AirTalkers x = air("p011 p011");
      x.row(0, 0);
      found(x, SIZE, "kinds() by none", () -> x.kinds(0, 0));
      lay(x, 0, 2);
      due("kinds() by one number", x.kinds(0, 0), 63);
      x.row(0, 20);
      due("kinds() by twenty", x.kinds(0, 0), 0);
      x.row(0, 21);
      found(x, SIZE, "kinds() by 21", () -> x.kinds(0, 0));
    });
  }

  /**
   * l0 of STEP 9 WAITS, at CLASH 1, what 9 times the SLOT leaves over by 10: 8 in the SLOTS 2, 12, .. 212, where it
   * meets s9; so it is HEARD in 11, 21, .. and b LETTERS of it and c of s9 are done behind SLOT 10 b + 1 + c.
   */
  static void lotteryBeyond() {
    AirTalkers x = more(behind(2, air("l090 s910")), 22, 9);
    due("ends() from SLOT 2 on", x.ends(), NONE);
    due("ends() from SLOT 31 on, a LOTTERY one's CLASHES in 202, 212", behind(29, x).ends(), 200);
  }

  // ---- promises 1 to 13: rows, texts, airs

  static void newObject() {
    edge("No ROWS, TEXTS, STATIONS.", () -> {
      AirTalkers x = new AirTalkers();
      for (int what = 0; what < 12; what++) due("count(" + what + ")", x.count(what), 0);
      for (int r = 0; r < 6; r++) due("at(" + r + ", 0)", x.at(r, 0), FINDING);
      for (int t = 0; t < 4; t++) due("put(" + t + ", 0, 0)", x.put(t, 0, 0), FINDING);
      due("findings(NOTHING)", x.findings(NOTHING), 10);
      for (int i = 0; i < 7; i++) due("station(" + i + ", 0)", x.station(i, 0), BAD);
    });
  }

  static void row() {
    edge("A ROW is there with n ints 0: n.", () -> {
      AirTalkers x = new AirTalkers();
      due("row(0, 0)", x.row(0, 0), 0);
      due("ROWS", x.count(7), 1);
      places(x, 0);
      due("row(0, 40)", x.row(0, 40), 40);
      places(x, 0, new int[40]);
      for (int i = 0; i < 40; i++) x.lay(0, i, 7);
      due("row(0, 1)", x.row(0, 1), 1);
      places(x, 0, 0);
      due("row(0, 40) anew", x.row(0, 40), 40);
      places(x, 0, new int[40]);
      due("ROWS", x.count(7), 1);
    });
    AirTalkers x = new AirTalkers();
    lay(x, 1, 7);
    edge("BAD", () -> {
      refused(x, BAD, "row(-1, 0)", () -> x.row(-1, 0));
      refused(x, BAD, "row(6, 0)", () -> x.row(6, 0));
      refused(x, BAD, "row(LOW, 0)", () -> x.row(LOW, 0));
      refused(x, BAD, "row(HIGH, 0)", () -> x.row(HIGH, 0));
    });
    edge("also n above 40", () -> {
      refused(x, BAD, "row(1, 41)", () -> x.row(1, 41));
      refused(x, BAD, "row(0, HIGH)", () -> x.row(0, HIGH));
    });
    edge("SIZE: below 0.", () -> {
      found(x, SIZE, "row(1, -1)", () -> x.row(1, -1));
      found(x, SIZE, "row(0, LOW)", () -> x.row(0, LOW));
      places(x, 1, 7);
    });
  }

  interface Place { int answer(AirTalkers x, int r, int i); }

  /** What lay() and at() refuse alike. */
  static void placesRefused(Place call) {
    edge("BAD", () -> {
      AirTalkers x = new AirTalkers();
      refused(x, BAD, "ROW -1", () -> call.answer(x, -1, 0));
      refused(x, BAD, "ROW 6", () -> call.answer(x, 6, 0));
      refused(x, BAD, "ROW LOW", () -> call.answer(x, LOW, 0));
      refused(x, BAD, "ROW HIGH", () -> call.answer(x, HIGH, 0));
    });
    edge("NOTHING", () -> {
      AirTalkers x = new AirTalkers();
      x.row(2, 3);
      x.tear(2);
      found(x, NOTHING, "a ROW that never was", () -> call.answer(x, 5, 0));
      found(x, NOTHING, "a ROW that was torn", () -> call.answer(x, 2, 0));
      found(x, NOTHING, "NOTHING ahead of BEYOND", () -> call.answer(x, 0, -1));
    });
    edge("BEYOND", () -> {
      AirTalkers x = new AirTalkers();
      x.row(0, 0);
      x.row(1, 3);
      x.row(2, 40);
      found(x, BEYOND, "place 0 of none", () -> call.answer(x, 0, 0));
      found(x, BEYOND, "place -1", () -> call.answer(x, 1, -1));
      found(x, BEYOND, "place 3 of 3", () -> call.answer(x, 1, 3));
      found(x, BEYOND, "place 40 of 40", () -> call.answer(x, 2, 40));
      found(x, BEYOND, "place LOW", () -> call.answer(x, 2, LOW));
      found(x, BEYOND, "place HIGH", () -> call.answer(x, 2, HIGH));
      due("place 2 of 3", call.answer(x, 1, 2), 1);
      due("place 39 of 40", call.answer(x, 2, 39), 1);
    });
  }

  static void layCall() {
    edge("what it was, told by asked(): 1.", () -> {
      AirTalkers x = new AirTalkers();
      x.row(0, 40);
      told(x, "lay(0, 39, LOW)", x.lay(0, 39, LOW), 1, 0);
      told(x, "lay(0, 39, HIGH)", x.lay(0, 39, HIGH), 1, LOW);
      told(x, "lay(0, 0, -9)", x.lay(0, 0, -9), 1, 0);
      told(x, "lay(0, 39, -1)", x.lay(0, 39, -1), 1, HIGH);
    });
    placesRefused((x, r, i) -> x.lay(r, i, 9));
  }

  static void atCall() {
    edge("told by asked(): 1.", () -> {
      AirTalkers x = new AirTalkers();
      lay(x, 5, LOW, 0, HIGH);
      told(x, "at(5, 0)", x.at(5, 0), 1, LOW);
      told(x, "at(5, 2)", x.at(5, 2), 1, HIGH);
    });
    placesRefused((x, r, i) -> x.at(r, i));
  }

  static void tear() {
    edge("A ROW is missing: 1.", () -> {
      AirTalkers x = new AirTalkers();
      x.row(0, 0);
      x.row(5, 40);
      due("tear(0) of none", x.tear(0), 1);
      due("tear(5) of 40", x.tear(5), 1);
      due("ROWS", x.count(7), 0);
      x.row(5, 1);
      places(x, 5, 0);
    });
    edge("BAD", () -> {
      AirTalkers x = new AirTalkers();
      refused(x, BAD, "tear(-1)", () -> x.tear(-1));
      refused(x, BAD, "tear(6)", () -> x.tear(6));
    });
    edge("NOTHING", () -> {
      AirTalkers x = new AirTalkers();
      found(x, NOTHING, "tear(0)", () -> x.tear(0));
      x.row(0, 1);
      x.tear(0);
      found(x, NOTHING, "tear(0) again", () -> x.tear(0));
    });
  }

  static AirTalkers copyRows() {
    AirTalkers x = new AirTalkers();
    lay(x, 0, 1, 2, 3, 4);
    lay(x, 1, 8, 9);
    x.row(2, 0);
    return x;
  }

  static void copy() {
    edge("(perhaps itself) from one on, as if taken ahead: 1.", () -> {
      AirTalkers x = copyRows();
      due("on", x.copy(0, 0, 0, 1, 3), 1);
      places(x, 0, 1, 1, 2, 3);
      due("back", x.copy(0, 1, 0, 0, 3), 1);
      places(x, 0, 1, 2, 3, 3);
      due("to where it is", x.copy(0, 0, 0, 0, 4), 1);
      places(x, 0, 1, 2, 3, 3);
      due("to another one", x.copy(0, 2, 1, 0, 2), 1);
      places(x, 1, 3, 3);
      due("none", x.copy(0, 4, 1, 2, 0), 1);
      due("none of none", x.copy(2, 0, 2, 0, 0), 1);
      x.row(3, 40);
      x.row(4, 40);
      x.lay(3, 0, 5);
      x.lay(3, 39, 6);
      due("40", x.copy(3, 0, 4, 0, 40), 1);
      due("the first and the last of 40", place(x, 4, 0) * 10 + place(x, 4, 39), 56);
    });
    AirTalkers x = copyRows();
    edge("BAD", () -> {
      for (int bad : new int[] {-1, 6, LOW, HIGH}) {
        refused(x, BAD, "copy(" + bad + ", 0, 0, 0, 0)", () -> x.copy(bad, 0, 0, 0, 0));
        refused(x, BAD, "copy(0, 0, " + bad + ", 0, 0)", () -> x.copy(0, 0, bad, 0, 0));
      }
    });
    edge("SIZE: n below 0", () -> {
      found(x, SIZE, "n -1", () -> x.copy(0, 1, 1, 0, -1));
      found(x, SIZE, "n LOW", () -> x.copy(0, 0, 1, 0, LOW));
      found(x, SIZE, "SIZE ahead of NOTHING", () -> x.copy(5, 0, 0, 0, -1));
      found(x, SIZE, "SIZE ahead of BEYOND", () -> x.copy(0, 9, 0, 9, -1));
    });
    AirTalkers y = copyRows();
    edge("NOTHING: either", () -> {
      found(y, NOTHING, "from", () -> y.copy(5, 0, 0, 0, 0));
      found(y, NOTHING, "to", () -> y.copy(0, 0, 5, 0, 1));
      found(y, NOTHING, "both", () -> y.copy(4, 0, 5, 0, 1));
      found(y, NOTHING, "NOTHING ahead of BEYOND", () -> y.copy(0, 9, 5, 9, 9));
      found(y, NOTHING, "NOTHING ahead of BEYOND", () -> y.copy(5, -1, 0, 9, 9));
    });
    edge("BEYOND: not so many there.", () -> {
      AirTalkers z = copyRows(), more = copyRows();
      found(z, BEYOND, "5 of 4", () -> z.copy(0, 0, 0, 0, 5));
      found(z, BEYOND, "3 to 2", () -> z.copy(0, 0, 1, 0, 3));
      found(z, BEYOND, "3 of 2", () -> z.copy(1, 0, 0, 0, 3));
      found(z, BEYOND, "2 from the last one", () -> z.copy(0, 3, 1, 0, 2));
      found(z, BEYOND, "2 to the last one", () -> z.copy(0, 0, 1, 1, 2));
      found(z, BEYOND, "1 of none", () -> z.copy(2, 0, 0, 0, 1));
      found(more, BEYOND, "from -1", () -> more.copy(0, -1, 0, 0, 1));
      found(more, BEYOND, "to -1", () -> more.copy(0, 0, 0, -1, 1));
      found(more, BEYOND, "from HIGH, so that the sum would wrap around", () -> more.copy(0, HIGH, 0, 0, 1));
      found(more, BEYOND, "to HIGH", () -> more.copy(0, 0, 0, HIGH, HIGH));
      found(more, BEYOND, "n HIGH", () -> more.copy(0, 1, 0, 1, HIGH));
      found(more, BEYOND, "none from 5 on of 4", () -> more.copy(0, 5, 0, 0, 0));
      found(more, BEYOND, "none to -1", () -> more.copy(0, 0, 0, -1, 0));
      found(more, BEYOND, "from LOW", () -> more.copy(0, LOW, 0, 0, 4));
    });
  }

  static void mean(int want, int... ints) {
    AirTalkers x = new AirTalkers();
    lay(x, 0, ints);
    told(x, "mean of " + Arrays.toString(ints), x.mean(0), 1, want);
  }

  static void means() {
    edge("cut, told by asked(): 1.", () -> {
      mean(2, 1, 2, 4);
      mean(-2, -1, -2, -4);
      mean(0, 0, 1);
      mean(0, 0, -1);
      mean(-7, -7);
      mean(0, HIGH, LOW);
      int[] highest = new int[40], lowest = new int[40];
      Arrays.fill(highest, HIGH);
      Arrays.fill(lowest, LOW);
      mean(HIGH, highest);
      mean(LOW, lowest);
      AirTalkers shorter = new AirTalkers();
      lay(shorter, 0, 9, 9, 9);
      lay(shorter, 0, 4, 2);
      told(shorter, "mean of a ROW that was longer", shorter.mean(0), 1, 3);
    });
    AirTalkers x = new AirTalkers();
    edge("BAD", () -> {
      refused(x, BAD, "mean(-1)", () -> x.mean(-1));
      refused(x, BAD, "mean(6)", () -> x.mean(6));
    });
    edge("NOTHING", () -> found(x, NOTHING, "mean(5)", () -> x.mean(5)));
    edge("NOUGHT", () -> {
      x.row(5, 0);
      found(x, NOUGHT, "mean(5) of none", () -> x.mean(5));
    });
  }

  static void text() {
    edge("A TEXT is there with n blanks: n.", () -> {
      AirTalkers x = new AirTalkers();
      due("text(0, 0)", x.text(0, 0), 0);
      due("TEXTS", x.count(8), 1);
      due("put(0, 0, 0)", x.put(0, 0, 0), FINDING);
      due("text(0, 60)", x.text(0, 60), 60);
      for (int i = 0; i < 60; i++) due("put(0, " + i + ", 7)", x.put(0, i, 7), 1032);
      due("text(0, 1)", x.text(0, 1), 1);
      due("put(0, 1, 0)", x.put(0, 1, 0), FINDING);
      due("text(0, 60) anew", x.text(0, 60), 60);
      for (int i = 0; i < 60; i++) due("put(0, " + i + ", 7) anew", x.put(0, i, 7), 1032);
    });
    AirTalkers x = new AirTalkers();
    write(x, 1, "p");
    edge("BAD", () -> {
      refused(x, BAD, "text(-1, 0)", () -> x.text(-1, 0));
      refused(x, BAD, "text(4, 0)", () -> x.text(4, 0));
      refused(x, BAD, "text(HIGH, 0)", () -> x.text(HIGH, 0));
    });
    edge("also n above 60", () -> {
      refused(x, BAD, "text(1, 61)", () -> x.text(1, 61));
      refused(x, BAD, "text(0, HIGH)", () -> x.text(0, HIGH));
    });
    edge("SIZE: below 0.", () -> {
      found(x, SIZE, "text(1, -1)", () -> x.text(1, -1));
      found(x, SIZE, "text(0, LOW)", () -> x.text(0, LOW));
      due("put(1, 0, 0)", x.put(1, 0, 0), 1112);
    });
  }

  static void put() {
    edge("cut to a byte: what it was, and 1000 more.", () -> {
      AirTalkers x = new AirTalkers();
      x.text(3, 60);
      int[] put = {0, 127, 128, 255, 256, -1, -128, -129, 65535, LOW, HIGH, 32};
      int[] was = {32, 0, 127, -128, -1, 0, -1, -128, 127, -1, 0, -1};
      for (int k = 0; k < put.length; k++) due("put(3, 59, " + put[k] + ")", x.put(3, 59, put[k]), 1000 + was[k]);
    });
    AirTalkers x = new AirTalkers();
    edge("BAD", () -> {
      refused(x, BAD, "put(-1, 0, 0)", () -> x.put(-1, 0, 0));
      refused(x, BAD, "put(4, 0, 0)", () -> x.put(4, 0, 0));
    });
    edge("NOTHING", () -> {
      found(x, NOTHING, "put(0, 0, 0)", () -> x.put(0, 0, 0));
      found(x, NOTHING, "NOTHING ahead of BEYOND", () -> x.put(3, -1, 0));
    });
    edge("BEYOND", () -> {
      AirTalkers y = new AirTalkers();
      y.text(0, 0);
      y.text(1, 60);
      found(y, BEYOND, "put(0, 0, 0) of none", () -> y.put(0, 0, 0));
      found(y, BEYOND, "put(1, -1, 0)", () -> y.put(1, -1, 0));
      found(y, BEYOND, "put(1, 60, 0)", () -> y.put(1, 60, 0));
      found(y, BEYOND, "put(1, LOW, 0)", () -> y.put(1, LOW, 0));
      found(y, BEYOND, "put(1, HIGH, 0)", () -> y.put(1, HIGH, 0));
      due("put(1, 59, 0)", y.put(1, 59, 0), 1032);
    });
  }

  static void faultCall() {
    edge("A FAULT of a TEXT; NONE: there is none.", () -> {
      AirTalkers x = behind(2, air("p123 l232"));
      write(x, 3, "d999 y121 o010");
      refused(x, NONE, "fault(3)", () -> x.fault(3));
      x.text(2, 1);
      refused(x, 1, "fault(2): a FAULT at place 1", () -> x.fault(2));
      due("STATIONS still", x.count(0), 2);
      is(x, 0, 3, 2, 1);
    });
    AirTalkers x = new AirTalkers();
    edge("BAD", () -> {
      refused(x, BAD, "fault(-1)", () -> x.fault(-1));
      refused(x, BAD, "fault(4)", () -> x.fault(4));
    });
    edge("NOTHING", () -> found(x, NOTHING, "fault(3)", () -> x.fault(3)));
  }

  static void airCall() {
    edge("(anew: as told at first, no DEEDS; kept AIRS go): how many STATIONS.", () -> {
      AirTalkers x = air("p129 y119 l239");
      more(x, 1).first(1, 7);
      behind(9, x);
      for (int k = 0; k < 3; k++) x.keep(k);
      due("HEARD is told aside, too", x.later(0, 7) >= 0 && x.asked() > 0 ? 1 : 0, 1);
      write(x, 1, SEVEN);
      due("air(1) of seven", x.air(1), 7);
      due("kept AIRS", x.count(9), 0);
      due("DEEDS", x.count(2), 0);
      found(x, NOTHING, "on(2)", () -> x.on(2));
      due("air(0) of three", x.air(0), 3);
      int[] counts = {3, 0, 0, 27, 0, 0, 0, 0, 2, 0, 1, 1};
      for (int what = 0; what < 12; what++) due("count(" + what + ")", x.count(what), counts[what]);
      is(x, 1, 9, 0, 0);
      due("FIRST of 1", of(x, 1, 1), 1);
      refused(x, BAD, "station(3, 0), which was there by seven", () -> x.station(3, 0));
      refused(x, 0, "undo(0)", () -> x.undo(0));
      x.text(0, 0);
      x.slot();
      due("undo(0)", x.undo(0), 1);
      due("the AIR stays if its TEXT is another one", x.count(3), 27);
    });
    AirTalkers x = behind(2, air("p129 y119"));
    x.keep(1);
    write(x, 2, "p129 ");
    edge("BAD", () -> {
      refused(x, BAD, "air(-1)", () -> x.air(-1));
      refused(x, BAD, "air(4)", () -> x.air(4));
    });
    edge("NOTHING; STATE: a FAULT.", () -> {
      refused(x, STATE, "air(2)", () -> x.air(2));
      due("on(1)", x.on(1), 2);
    });
    edge("(STATE behind NOTHING.)", () -> found(x, NOTHING, "air(3)", () -> x.air(3)));
  }

  static void station() {
    edge("0 the KIND, 1 FIRST, 2 STEP, 3 LETTERS, 4 WAIT, 5 CLASHES, 6 whether it WANTS to talk (1, 0), told by asked(): 1.", () -> {
      AirTalkers x = air("p010p010p010p010p010p010y999");
      int[] told = {5, 9, 9, 9, 0, 0, 1};
      for (int what = 0; what < 7; what++) told(x, "station(6, " + what + ")", x.station(6, what), 1, told[what]);
      x.slot();
      told(x, "WANTS, behind one in which it talked", x.station(6, 6), 1, 0);
    });
    edge("BAD", () -> {
      AirTalkers x = air("p011 p010"), none = new AirTalkers();
      refused(x, BAD, "station(-1, 0)", () -> x.station(-1, 0));
      refused(x, BAD, "station(2, 0)", () -> x.station(2, 0));
      refused(x, BAD, "station(0, -1)", () -> x.station(0, -1));
      refused(x, BAD, "station(0, 7)", () -> x.station(0, 7));
      refused(x, BAD, "station(HIGH, LOW)", () -> x.station(HIGH, LOW));
      refused(none, BAD, "station(0, 0) without STATIONS", () -> none.station(0, 0));
    });
  }

  static void mark() {
    edge("a DOUBLE one (LOTTERY, too) how much longer it would WAIT behind its next CLASH than a PLAIN one alike, and 100, were it in this SLOT", () -> {
      AirTalkers x = air("d991 l991 s011");
      due("mark(0, 1): 18 by 18", x.mark(0, 1), 100);
      due("mark(1, 1): 0 by 18", x.mark(1, 1), 82);
      x.slot();
      due("mark(1, 1) in SLOT 1 at CLASH 2: 9 by 27", x.mark(1, 1), 82);
      AirTalkers y = behind(18, air("d052 s012 s012"));
      due("mark(0, 1) at CLASH 4: 40 by 20", y.mark(0, 1), 120);
    });
    edge("a POLITE one (SHY, too) whether it does not talk only because anybody talked in the SLOT ahead (1, 0)", () -> {
      AirTalkers x = air("o019 y010 p010 y011");
      due("mark(0, 2) while it talks", x.mark(0, 2), 0);
      x.drop(3);
      x.slot();
      due("mark(0, 2) behind it", x.mark(0, 2), 1);
      due("mark(1, 2) without LETTERS", x.mark(1, 2), 0);
      x.slot();
      due("mark(0, 2) behind a SLOT in which nobody talked", x.mark(0, 2), 0);
      x.give(1, 1);
      due("both talk", x.slot(), 2);
      due("mark(0, 2) while it WAITS", x.mark(0, 2), 0);
      x.slot();
      x.drop(0);
      x.drop(1);
      x.give(2, 1);
      x.slot();
      x.give(1, 1);
      due("mark(1, 2) by one LETTER", x.mark(1, 2), 1);
    });
    edge("a STUBBORN one how much less it would WAIT so than a PLAIN one alike", () -> {
      AirTalkers x = air("s991 s011");
      due("mark(0, 3)", x.mark(0, 3), 9);
      due("mark(1, 3)", x.mark(1, 3), 1);
      due("mark(1, 3) at CLASH 2", behind(1, x).mark(1, 3), 2);
    });
    edge("a LOTTERY one how much less than a DOUBLE one alike", () -> {
      AirTalkers x = air("l010 l991");
      due("mark(1, 4): 0 by 18", x.mark(1, 4), 18);
      x.slot();
      due("mark(0, 4) in SLOT 1: 1 by 1", x.mark(0, 4), 0);
      due("mark(0, 4) in SLOT 2: 0 by 1", behind(1, x).mark(0, 4), 1);
    });
    edge("a SHY one how many CLASHES it takes yet ahead of giving up (1 .. 4).", () -> {
      AirTalkers x = air("y012 y012");
      int[] yet = {4, 3, 3, 2, 2, 2, 1, 1, 1, 1, 4};
      for (int n = 0; n < yet.length; n++, x.slot()) due("mark(0, 5) in SLOT " + n, x.mark(0, 5), yet[n]);
    });
    edge("BAD: also KIND 0", () -> {
      AirTalkers x = air("p010 d010"), none = new AirTalkers();
      refused(x, BAD, "mark(0, 0)", () -> x.mark(0, 0));
      refused(x, BAD, "mark(0, -1)", () -> x.mark(0, -1));
      refused(x, BAD, "mark(0, 6)", () -> x.mark(0, 6));
      refused(x, BAD, "mark(0, HIGH)", () -> x.mark(0, HIGH));
      refused(x, BAD, "mark(-1, 1)", () -> x.mark(-1, 1));
      refused(x, BAD, "mark(2, 1)", () -> x.mark(2, 1));
      refused(none, BAD, "mark(0, 1) without STATIONS", () -> none.mark(0, 1));
    });
    edge("UNLIKE", () -> {
      int[] ofKind = {1, 3, 5, 9, 19, 37};
      for (int i = 0; i < 6; i++) {
        AirTalkers x = air("p011 d011 o011 s011 l011 y011");
        for (int kind = 1; kind < 6; kind++) {
          int one = i, as = kind;
          if ((ofKind[i] >> kind & 1) == 0) found(x, UNLIKE, "mark(" + i + ", " + kind + ")", () -> x.mark(one, as));
          else due("mark(" + i + ", " + kind + ") is told", x.mark(i, kind) >= 0 ? 1 : 0, 1);
        }
      }
    });
  }

  // ---- promises 14 to 20: deeds

  static void slot() {
    edge("STATE: no STATIONS", () -> {
      AirTalkers x = new AirTalkers();
      refused(x, STATE, "slot()", () -> x.slot());
      write(x, 0, "p010");
      x.air(0);
      refused(x, STATE, "slot() behind air() that was refused", () -> x.slot());
    });
    outOfReach("or it is SLOT 199", "40 DEEDS at most, so SLOT 40 is the last one; the class looks at it all the same.");
    edge("FULL: 40 DEEDS.", () -> {
      AirTalkers x = behind(39, air("p019 p010"));
      due("slot() 40", x.slot(), 0);
      refused(x, FULL, "slot() 41", () -> x.slot());
      due("the SLOT", x.count(1), 40);
      due("undo(39)", x.undo(39), 1);
      due("slot() 40 again", x.slot(), 0);
      refused(x, FULL, "slot() 41 again", () -> x.slot());
    });
    outOfReach("(FULL last.)", "Without STATIONS there are no DEEDS, and SLOT 199 does not come: STATE and FULL never fit at once.");
    edge("A SLOT: how many talk.", () -> {
      due("all of seven", air("p011p011p011p011p011p011p011").slot(), 7);
      due("none", air("p010p010").slot(), 0);
    });
  }

  static void give() {
    edge("LETTERS: how many it has then.", () -> {
      AirTalkers x = behind(1, air("p992 p992"));
      due("give(1, 9)", x.give(1, 9), 11);
      is(x, 1, 11, 18, 1);
    });
    edge("BAD: also n below 1, above 9", () -> {
      AirTalkers x = air("p010 p010"), none = new AirTalkers();
      for (int n : new int[] {0, -1, 10, LOW, HIGH}) refused(x, BAD, "give(0, " + n + ")", () -> x.give(0, n));
      refused(x, BAD, "give(-1, 1)", () -> x.give(-1, 1));
      refused(x, BAD, "give(2, 1)", () -> x.give(2, 1));
      refused(none, BAD, "give(0, 1) without STATIONS", () -> none.give(0, 1));
    });
    AirTalkers x = more(air("p010 p010"), 29);
    edge("SPENT: it would have more than 30", () -> {
      refused(x, SPENT, "give(0, 2): 31", () -> x.give(0, 2));
      refused(x, SPENT, "give(0, 9): 38", () -> x.give(0, 9));
      due("give(0, 1): 30", x.give(0, 1), 30);
      refused(x, SPENT, "give(0, 1): 31", () -> x.give(0, 1));
    });
    edge("FULL.", () -> {
      for (int n = x.count(2); n < 39; n++) x.first(1, n % 2 + 1);
      due("the 40th DEED", x.give(1, 1), 1);
      refused(x, FULL, "the 41st DEED", () -> x.give(1, 1));
    });
    edge("(FULL last.)", () -> refused(x, SPENT, "give(0, 1): SPENT ahead of FULL", () -> x.give(0, 1)));
  }

  static void drop() {
    edge("DROPPED: how many it had.", () -> {
      AirTalkers x = more(air("p019 p011"), 21);
      due("drop(0) of 30", x.drop(0), 30);
      due("drop(1) of 1", x.drop(1), 1);
      due("neither HEARD nor LOST", x.count(4) + x.count(5), 0);
    });
    edge("BAD", () -> {
      AirTalkers x = air("p011 p011"), none = new AirTalkers();
      refused(x, BAD, "drop(-1)", () -> x.drop(-1));
      refused(x, BAD, "drop(2)", () -> x.drop(2));
      refused(none, BAD, "drop(0) without STATIONS", () -> none.drop(0));
    });
    edge("STATE: none", () -> {
      AirTalkers x = air("p010 p011");
      refused(x, STATE, "drop(0)", () -> x.drop(0));
      x.drop(1);
      refused(x, STATE, "drop(1) again", () -> x.drop(1));
    });
    AirTalkers x = behind(39, air("s011 s011 p010"));
    edge("FULL.", () -> {
      due("the 40th DEED", x.drop(0), 1);
      refused(x, FULL, "the 41st DEED", () -> x.drop(1));
    });
    edge("(FULL last.)", () -> refused(x, STATE, "drop(2): STATE ahead of FULL", () -> x.drop(2)));
  }

  static void first() {
    edge("FIRST is n (0 .. 9): what it was.", () -> {
      AirTalkers x = air("p010 p910");
      due("first(0, 9)", x.first(0, 9), 0);
      due("first(0, 0)", x.first(0, 0), 9);
      due("first(1, 0)", x.first(1, 0), 9);
    });
    edge("BAD", () -> {
      AirTalkers x = air("p010 p910"), none = new AirTalkers();
      for (int n : new int[] {-1, 10, LOW, HIGH}) refused(x, BAD, "first(0, " + n + ")", () -> x.first(0, n));
      refused(x, BAD, "first(-1, 1)", () -> x.first(-1, 1));
      refused(x, BAD, "first(2, 1)", () -> x.first(2, 1));
      refused(none, BAD, "first(0, 1) without STATIONS", () -> none.first(0, 1));
    });
    edge("STATE: it is that", () -> {
      AirTalkers x = air("p010 p910");
      refused(x, STATE, "first(0, 0)", () -> x.first(0, 0));
      refused(x, STATE, "first(1, 9)", () -> x.first(1, 9));
      x.first(0, 5);
      refused(x, STATE, "first(0, 5) again", () -> x.first(0, 5));
    });
    AirTalkers x = behind(39, air("p010 p910"));
    edge("FULL.", () -> {
      due("the 40th DEED", x.first(0, 3), 0);
      refused(x, FULL, "the 41st DEED", () -> x.first(0, 4));
    });
    edge("(FULL last.)", () -> refused(x, STATE, "first(0, 3): STATE ahead of FULL", () -> x.first(0, 3)));
  }

  static void undo() {
    edge("DEEDS from number n on are undone: how many.", () -> {
      AirTalkers x = air("y012 l232 p112"), y = new AirTalkers();
      long first = x.digest();
      due("undo(0) of none", x.undo(0), 0);
      due("undo(0) without STATIONS", y.undo(0), 0);
      behind(39, x);
      long ahead = x.digest();
      x.drop(2);
      x.give(2, 1);
      refused(x, 0, "undo(40)", () -> x.undo(40));
      due("undo(39): the last one", x.undo(39), 1);
      due("digest()", x.digest(), ahead);
      behind(1, x);
      due("undo(0): all", x.undo(0), 40);
      due("digest()", x.digest(), first);
      due("undo(0) again", x.undo(0), 0);
    });
    edge("BAD", () -> {
      AirTalkers x = behind(3, air("p010 p010")), none = new AirTalkers();
      refused(x, BAD, "undo(-1)", () -> x.undo(-1));
      refused(x, BAD, "undo(4)", () -> x.undo(4));
      refused(x, BAD, "undo(HIGH)", () -> x.undo(HIGH));
      refused(x, BAD, "undo(LOW)", () -> x.undo(LOW));
      refused(none, BAD, "undo(1) without STATIONS", () -> none.undo(1));
    });
  }

  static void keep() {
    edge("is kept in a place (0 .. 2): how many DEEDS.", () -> {
      AirTalkers x = air("p012 p012");
      due("keep(0) without DEEDS", x.keep(0), 0);
      behind(40, x);
      due("keep(2) with 40", x.keep(2), 40);
      due("kept AIRS", x.count(9), 2);
      due("keep(1)", x.keep(1), 40);
      due("kept AIRS", x.count(9), 3);
      x.undo(7);
      due("keep(1) over another one", x.keep(1), 7);
      due("kept AIRS", x.count(9), 3);
      due("on(1)", x.on(1), 7);
      due("on(2)", x.on(2), 40);
    });
    edge("BAD", () -> {
      AirTalkers x = air("p012 p012");
      for (int k : new int[] {-1, 3, LOW, HIGH}) refused(x, BAD, "keep(" + k + ")", () -> x.keep(k));
    });
    edge("STATE: no STATIONS.", () -> {
      AirTalkers x = new AirTalkers();
      for (int k = 0; k < 3; k++) {
        int place = k;
        refused(x, STATE, "keep(" + k + ")", () -> x.keep(place));
      }
    });
  }

  static void on() {
    edge("THE AIR is as it was kept: how many DEEDS.", () -> {
      AirTalkers x = air("y012 l232 p112");
      x.keep(0);
      long kept = x.digest();
      behind(40, x);
      due("on(0) without DEEDS", x.on(0), 0);
      due("digest()", x.digest(), kept);
      more(behind(38, x), 1).first(1, 9);
      x.keep(2);
      kept = x.digest();
      x.undo(0);
      due("on(2) with 40", x.on(2), 40);
      due("digest()", x.digest(), kept);
      refused(x, FULL, "slot()", () -> x.slot());
      due("undo(38)", x.undo(38), 2);
      due("FIRST of 1", of(x, 1, 1), 2);
      due("on(2) stays kept", x.on(2), 40);
      x.undo(0);
      x.give(2, 9);
      x.drop(0);
      behind(37, x);
      x.first(2, 5);
      due("on(2) behind 40 other DEEDS", x.on(2), 40);
      due("digest()", x.digest(), kept);
    });
    edge("BAD", () -> {
      AirTalkers x = air("p012 p012");
      for (int k : new int[] {-1, 3, LOW, HIGH}) refused(x, BAD, "on(" + k + ")", () -> x.on(k));
    });
    edge("NOTHING", () -> {
      AirTalkers x = air("p012 p012"), none = new AirTalkers();
      x.keep(1);
      found(x, NOTHING, "on(0)", () -> x.on(0));
      found(x, NOTHING, "on(2)", () -> x.on(2));
      x.air(0);
      found(x, NOTHING, "on(1) behind air()", () -> x.on(1));
      found(none, NOTHING, "on(0) without STATIONS", () -> none.on(0));
    });
  }

  // ---- promises 21 to 27: what comes, what to do

  static void talks() {
    edge("STATIONS (bits) that talk now; 1 by asked(), if one is HEARD, else 0.", () -> {
      AirTalkers none = new AirTalkers();
      told(none, "talks() without STATIONS", none.talks(), 0, 0);
      AirTalkers x = air("p011p010p010p010p010p010p011");
      told(x, "talks() of two", x.talks(), 65, 0);
      x.drop(0);
      told(x, "talks() of the last one", x.talks(), 64, 1);
      x.drop(6);
      told(x, "talks() of none", x.talks(), 0, 0);
    });
  }

  static void later() {
    AirTalkers x = tens(15, 5);
    edge("LETTERS of a STATION behind n (0 .. 100) SLOTS", () -> {
      told(x, "later(0, 0)", x.later(0, 0), 15, 0);
      told(x, "later(0, 99)", x.later(0, 99), 6, 9);
      told(x, "later(0, 100)", x.later(0, 100), 5, 10);
      told(x, "later(1, 100)", x.later(1, 100), 5, 10);
      behind(9, x);
      told(x, "later(0, 1) ahead of one HEARD", x.later(0, 1), 14, 1);
      x.slot();
      told(x, "later(0, 0) behind it", x.later(0, 0), 14, 0);
    });
    edge("BAD", () -> {
      AirTalkers y = air("p011 p010"), none = new AirTalkers();
      refused(y, BAD, "later(0, -1)", () -> y.later(0, -1));
      refused(y, BAD, "later(0, 101)", () -> y.later(0, 101));
      refused(y, BAD, "later(0, HIGH)", () -> y.later(0, HIGH));
      refused(y, BAD, "later(-1, 0)", () -> y.later(-1, 0));
      refused(y, BAD, "later(2, 0)", () -> y.later(2, 0));
      refused(none, BAD, "later(0, 0) without STATIONS", () -> none.later(0, 0));
    });
  }

  static void ends() {
    edge("Behind how many SLOTS (0 .. 200) nobody has LETTERS first", () -> {
      AirTalkers now = air("p010 p010");
      told(now, "ends() now", now.ends(), 0, 0);
      AirTalkers one = air("p011 p010");
      told(one, "ends() behind one", one.ends(), 1, 0);
      AirTalkers x = tens(18, 19);
      told(x, "ends() behind 199", x.ends(), 199, 0);
      x.give(1, 1);
      told(x, "ends() behind 200", x.ends(), 200, 0);
    });
    edge("how many were LOST till then by asked().", () -> {
      AirTalkers x = air("y012 y012");
      told(x, "ends(), giving up in the SLOTS 9 and 20", x.ends(), 21, 4);
      behind(9, x);
      told(x, "ends() ahead of giving up", x.ends(), 12, 4);
      x.slot();
      told(x, "ends() behind it", x.ends(), 11, 2);
      x.drop(0);
      x.drop(1);
      told(x, "ends() now", x.ends(), 0, 0);
    });
    edge("NONE: not by then.", () -> {
      AirTalkers x = tens(18, 21), never = air("s011 s011");
      refused(x, NONE, "ends() behind 201", () -> x.ends());
      x.slot();
      told(x, "ends() a SLOT later", x.ends(), 200, 0);
      refused(never, NONE, "ends() never", () -> never.ends());
    });
    edge("STATE: no STATIONS.", () -> {
      AirTalkers x = new AirTalkers();
      refused(x, STATE, "ends()", () -> x.ends());
    });
  }

  static void clash() {
    edge("In which SLOT from now on (1 .. 200) two or more talk first; who (bits) by asked().", () -> {
      AirTalkers x = air("p011p010p010p010p010p010p011");
      told(x, "clash() in this SLOT", x.clash(), 1, 65);
      AirTalkers y = behind(1, tens(2, 2));
      told(y, "clash() in SLOT 10", y.clash(), 10, 3);
      told(y, "clash() in the next SLOT", behind(8, y).clash(), 2, 3);
      told(y, "clash() in this SLOT", behind(1, y).clash(), 1, 3);
      AirTalkers far = behind(1, air("p990 p990"));
      more(far, 1, 1).slot();
      told(far, "clash() behind a WAIT of 18", far.clash(), 19, 3);
    });
    outOfReach("(1 .. 200) two or more talk first",
        "The first CLASH from now on never comes so late that 200 tells: behind 64 SLOTS nobody WAITS who had no CLASH since; of those that are not "
        + "POLITE one alone may have LETTERS then (two would meet), and is done in 30 more; two POLITE ones would meet in the next SLOT but one. "
        + "So it comes by the 100th SLOT or never.");
    edge("NONE: never by then.", () -> {
      AirTalkers x = air("p019 p010");
      refused(x, NONE, "clash() of one alone", () -> x.clash());
      AirTalkers y = air("p010 p010");
      refused(y, NONE, "clash() of none", () -> y.clash());
      AirTalkers z = behind(4, air("p011 p111"));
      refused(z, NONE, "clash() behind the last one", () -> z.clash());
    });
    edge("STATE: no STATIONS.", () -> {
      AirTalkers x = new AirTalkers();
      refused(x, STATE, "clash()", () -> x.clash());
    });
  }

  static void most() {
    edge("Who is HEARD most often in n (1 .. 100) SLOTS (the lowest); how often by asked().", () -> {
      AirTalkers x = tens(15, 5);
      told(x, "most(99)", x.most(99), 0, 9);
      told(x, "most(100)", x.most(100), 0, 10);
      AirTalkers one = air("p010 p011");
      told(one, "most(1)", one.most(1), 1, 1);
      AirTalkers equal = behind(1, air("p911 p111"));
      told(equal, "most(100): the lowest, though later", equal.most(100), 0, 1);
      AirTalkers last = air("p010p010p010p010p010p010p011");
      told(last, "most(100): the last one", last.most(100), 6, 1);
      told(last, "most(100) again", last.most(100), 6, 1);
    });
    edge("NONE: nobody is.", () -> {
      AirTalkers x = tens(15, 5), never = air("s011 s011"), empty = air("s010 s010");
      refused(x, NONE, "most(9)", () -> x.most(9));
      told(x, "most(10)", x.most(10), 0, 1);
      refused(never, NONE, "most(100)", () -> never.most(100));
      refused(empty, NONE, "most(100) without LETTERS", () -> empty.most(100));
    });
    edge("BAD", () -> {
      AirTalkers x = air("p011 p010");
      for (int n : new int[] {0, -1, 101, LOW, HIGH}) refused(x, BAD, "most(" + n + ")", () -> x.most(n));
    });
    edge("STATE: no STATIONS.", () -> {
      AirTalkers x = new AirTalkers();
      refused(x, STATE, "most(1)", () -> x.most(1));
      refused(x, STATE, "most(100)", () -> x.most(100));
    });
  }

  static void best() {
    edge("The FIRST wait (0 .. 9) of a STATION by which, from now on, nobody has LETTERS soonest (within 200 SLOTS; the least number)", () -> {
      AirTalkers x = tens(18, 20);
      told(x, "best(2) of one without LETTERS: the least number, in 200", x.best(2), 0, 200);
      told(x, "best(0): nine of ten SLOTS are its own", x.best(0), 0, 40);
      AirTalkers greatest = air("s011 s019");
      told(greatest, "best(0): FIRST 9 lets the other one be done", greatest.best(0), 9, 11);
      due("FIRST still", of(greatest, 0, 1), 0);
      AirTalkers beyond = more(air("s011 s019"), 0, 1);
      told(beyond, "best(0): FIRST 10, by which it would be 12, is none", beyond.best(0), 5, 13);
      AirTalkers now = air("p910 p010");
      told(now, "best(0) that is done now", now.best(0), 0, 0);
    });
    edge("NONE: by none.", () -> {
      AirTalkers x = tens(18, 21), never = air("s011 s011 p010");
      refused(x, NONE, "best(2) in 201", () -> x.best(2));
      refused(never, NONE, "best(2) never", () -> never.best(2));
    });
    edge("BAD", () -> {
      AirTalkers x = air("p011 p011"), none = new AirTalkers();
      refused(x, BAD, "best(-1)", () -> x.best(-1));
      refused(x, BAD, "best(2)", () -> x.best(2));
      refused(none, BAD, "best(0) without STATIONS", () -> none.best(0));
    });
  }

  static void silence() {
    edge("(they neither talk nor is their WAIT less) so that most LETTERS are HEARD in n (1 .. 40) SLOTS", () -> {
      AirTalkers x = air("s019 s019");
      told(x, "silence(1)", x.silence(1), 1, 1);
      AirTalkers y = behind(1, more(air("o019 p010"), 21));
      told(y, "silence(39): each second SLOT", y.silence(39), 0, 19);
      told(y, "silence(40): each second SLOT", y.silence(40), 0, 20);
    });
    outOfReach("nor is their WAIT less", "Whom one SILENCES is silent in all the n SLOTS, so that its WAIT is never asked for.");
    edge("of several the fewest, then the least number; how many by asked().", () -> {
      AirTalkers none = air("p010 p010");
      told(none, "silence(40) without LETTERS", none.silence(40), 0, 0);
      AirTalkers fewest = air("s013 s010 s010");
      told(fewest, "silence(3): the fewest", fewest.silence(3), 0, 3);
      AirTalkers least = air("s019 s019 s010");
      told(least, "silence(9): the least number", least.silence(9), 1, 9);
      AirTalkers two = air("s014 s011 s011 s014");
      told(two, "silence(4): three, of 7, 14 the least", two.silence(4), 7, 4);
      told(two, "silence(1): three", two.silence(1), 7, 1);
      AirTalkers greater = air("s011 s019");
      told(greater, "silence(9): most ahead of the least", greater.silence(9), 1, 9);
      AirTalkers last = air("s019 s011");
      told(last, "silence(9)", last.silence(9), 2, 9);
      AirTalkers third = air("s011 s111 s012");
      told(third, "silence(3): one, 4, ahead of two, 3", third.silence(3), 4, 2);
    });
    edge("BAD", () -> {
      AirTalkers x = air("p011 p010");
      for (int n : new int[] {0, -1, 41, LOW, HIGH}) refused(x, BAD, "silence(" + n + ")", () -> x.silence(n));
    });
    edge("STATE: no STATIONS.", () -> {
      AirTalkers x = new AirTalkers();
      refused(x, STATE, "silence(1)", () -> x.silence(1));
      refused(x, STATE, "silence(40)", () -> x.silence(40));
    });
  }

  // ---- promises 28 to 31: which station it is, by turns

  interface Watch { int answer(AirTalkers x, int i, int r); }

  /** What kinds(), firsts(), test() refuse alike. */
  static void watchRefused(Watch call, String size, String unlike, String order) {
    edge("BAD", () -> {
      AirTalkers x = air("p011 p011"), none = new AirTalkers();
      lay(x, 0, 2);
      lay(none, 0, 2);
      refused(x, BAD, "STATION -1", () -> call.answer(x, -1, 0));
      refused(x, BAD, "STATION 2 of two", () -> call.answer(x, 2, 0));
      refused(x, BAD, "ROW -1", () -> call.answer(x, 0, -1));
      refused(x, BAD, "ROW 6", () -> call.answer(x, 0, 6));
      refused(none, BAD, "without STATIONS", () -> call.answer(none, 0, 0));
    });
    edge("NOTHING", () -> {
      AirTalkers x = air("p011 p011");
      lay(x, 0, 2);
      x.tear(0);
      found(x, NOTHING, "a ROW that was torn", () -> call.answer(x, 0, 0));
      found(x, NOTHING, "a ROW that never was", () -> call.answer(x, 1, 5));
    });
    edge(size, () -> {
      AirTalkers x = air("p011 p011");
      for (int r = 0; r < 5; r++) x.row(r, new int[] {0, 1, 20, 21, 40}[r]);
      found(x, SIZE, "a ROW of none", () -> call.answer(x, 0, 0));
      found(x, SIZE, "a ROW of 21", () -> call.answer(x, 0, 3));
      found(x, SIZE, "a ROW of 40", () -> call.answer(x, 0, 4));
      due("whether a ROW of 1 is refused", call.answer(x, 0, 1) == FINDING ? 1 : 0, 0);
      due("whether a ROW of 20 is refused", call.answer(x, 0, 2) == FINDING ? 1 : 0, 0);
    });
    edge(unlike, () -> {
      AirTalkers x = air("p011 p011");
      for (int r = 0; r < 4; r++) lay(x, r, new int[] {-1, 0, 7, 8}[r]);
      x.row(4, 20);
      x.lay(4, 19, 8);
      found(x, UNLIKE, "-1", () -> call.answer(x, 0, 0));
      found(x, UNLIKE, "8", () -> call.answer(x, 0, 3));
      found(x, UNLIKE, "8 as the last one of 20", () -> call.answer(x, 0, 4));
      x.lay(0, 0, LOW);
      found(x, UNLIKE, "LOW", () -> call.answer(x, 0, 0));
      due("whether 0 is refused", call.answer(x, 0, 1) == FINDING ? 1 : 0, 0);
      due("whether 7 is refused", call.answer(x, 0, 2) == FINDING ? 1 : 0, 0);
    });
    edge(order, () -> {
      AirTalkers x = air("p011 p011");
      x.row(1, 21);
      x.lay(1, 0, 8);
      lay(x, 2, 8);
      refused(x, BAD, "BAD ahead of NOTHING", () -> call.answer(x, 2, 0));
      refused(x, BAD, "BAD ahead of SIZE", () -> call.answer(x, -1, 1));
      refused(x, BAD, "BAD ahead of UNLIKE", () -> call.answer(x, 2, 2));
      found(x, SIZE, "SIZE ahead of UNLIKE", () -> call.answer(x, 0, 1));
    });
  }

  /**
   * Two of FIRST 9, STEP 5 meet in the SLOTS 0, 15, 35 (WAITS 14, 19); then the second one has FIRST 0: were it
   * STUBBORN, it would talk in SLOT 36, too; of another KIND it would not (a LOTTERY one WAITS 175 by 21: 7).
   */
  static AirTalkers inSlot(int n) {
    AirTalkers x = behind(n, air("p952 p952"));
    x.first(1, 0);
    return x;
  }

  static void kinds() {
    edge("KINDS (bits) that a STATION can be of by these (all else as it is).", () -> {
      AirTalkers x = inSlot(17);
      x.row(0, 20);
      x.lay(0, 18, 2);
      due("kinds() by 0 as the last one of 20", x.kinds(1, 0), 63 - 8);
      x.lay(0, 19, 1);
      due("kinds() by 1 as the last one of 20", x.kinds(1, 0), 8);
      x.lay(0, 18, 1);
      due("kinds(): none", x.kinds(1, 0), 0);
      lay(x, 0, 0);
      due("kinds(): all", x.kinds(1, 0), 63);
      due("KIND still", of(x, 1, 0), 0);
      AirTalkers seven = air("p011p011p011p011p011p011p011");
      lay(seven, 0, 7);
      due("kinds() by 7", seven.kinds(6, 0), 63);
      AirTalkers none = air("p010p010");
      lay(none, 0, 0);
      due("kinds() without LETTERS", none.kinds(0, 0), 63);
    });
    watchRefused((x, i, r) -> x.kinds(i, r), "SIZE: none, more than 20", "UNLIKE: a number that is none.", "(In this order.)");
  }

  static void firsts() {
    edge("FIRST waits (bits 0 .. 9) that it can have.", () -> {
      AirTalkers x = air("p011 p011");
      lay(x, 0, 2, 0, 2);
      due("firsts(): 0 alone", x.firsts(1, 0), 1);
      lay(x, 0, 2, 0, 1, 0, 0, 0, 0, 0, 0, 0, 0, 1);
      due("firsts(): 9 alone", x.firsts(1, 0), 512);
      lay(x, 0, 2);
      due("firsts(): all", x.firsts(1, 0), 1023);
      lay(x, 0, 7);
      due("firsts(): none", x.firsts(1, 0), 0);
      due("FIRST still", of(x, 1, 1), 0);
      AirTalkers last = behind(1, air("s992 p992"));
      int[] talked = new int[20];
      talked[9] = 1;
      talked[10] = 1;
      talked[18] = 1;
      talked[19] = 1;
      lay(last, 0, talked);
      due("firsts(): its WAIT stays, by 20", last.firsts(1, 0), 1023);
    });
    watchRefused((x, i, r) -> x.firsts(i, r), "SIZE", "UNLIKE", "(In this order.)");
  }

  static void test() {
    edge("In which of the next SLOTS (1 .. 20) to listen to how many talk so that these KINDS are told apart best", () -> {
      AirTalkers x = inSlot(16);
      lay(x, 0, 0);
      told(x, "test() in SLOT 16: the 21st would tell", x.test(1, 0), 1, 6);
      AirTalkers y = inSlot(17);
      lay(y, 0, 0);
      told(y, "test() in SLOT 17: the 20th tells", y.test(1, 0), 20, 5);
      AirTalkers z = inSlot(36);
      lay(z, 0, 0);
      told(z, "test() in SLOT 36: both WAIT 24", z.test(1, 0), 1, 6);
    });
    edge("the greatest part of those by which as many do is least (the first); that part by asked().", () -> {
      AirTalkers x = air("p011 p011");
      lay(x, 0, 2);
      told(x, "test() of all: 3, 2, 1 in SLOT 10 and again in 15", x.test(1, 0), 10, 3);
      lay(x, 0, 2, 0, 2, 0, 0, 2, 0, 0, 0, 1);
      told(x, "test() of DOUBLE alone", x.test(1, 0), 1, 1);
      lay(x, 0, 2, 0, 2, 0, 0, 2, 0, 0, 0, 2, 0, 0, 0, 0, 1);
      told(x, "test() of SHY alone", x.test(1, 0), 1, 1);
      AirTalkers plain = air("s019 p013");
      lay(plain, 0, 2, 1, 2, 1, 1, 2, 1, 1, 1, 2);
      told(plain, "test() of PLAIN alone", plain.test(1, 0), 1, 1);
    });
    edge("NONE: there is no KIND.", () -> {
      AirTalkers x = air("p011 p011");
      lay(x, 0, 7);
      refused(x, NONE, "test()", () -> x.test(1, 0));
    });
    watchRefused((x, i, r) -> x.test(i, r), "SIZE", "UNLIKE", "(In this order.)");
  }

  static void duel() {
    edge("By n (0 .. 3) turns in all one gives a STATION one LETTER more (also beyond 30), then another one does", () -> {
      AirTalkers x = air("p010 p010");
      due("duel(0)", x.duel(0), 0);
      due("duel(1)", x.duel(1), 1);
      due("duel(2)", x.duel(2), 2);
      due("duel(3): one that meets another one alike", x.duel(3), 201);
      AirTalkers beyond = more(air("s010 s110"), 30, 30);
      int[] twoAndOne = {90, 92, 93, 95};
      for (int n = 0; n < 4; n++) due("duel(" + n + "): 2 SLOTS for each LETTER of s0, 1 for each of s1", beyond.duel(n), twoAndOne[n]);
      is(beyond, 0, 30, 0, 0);
    });
    edge("behind how many SLOTS nobody has any then (not within 200: 201), the first wanting it late, the other one soon.", () -> {
      due("duel(0) in 199", tens(18, 19).duel(0), 199);
      due("duel(0) in 200", tens(18, 20).duel(0), 200);
      due("duel(0) in 201", tens(18, 21).duel(0), 201);
      due("duel(0) in 210", tens(18, 30).duel(0), 201);
      due("duel(0) never", air("s011 s011").duel(0), 201);
    });
    edge("BAD", () -> {
      AirTalkers x = air("p011 p010");
      for (int n : new int[] {-1, 4, LOW, HIGH}) refused(x, BAD, "duel(" + n + ")", () -> x.duel(n));
    });
    edge("STATE: no STATIONS.", () -> {
      AirTalkers x = new AirTalkers();
      refused(x, STATE, "duel(0)", () -> x.duel(0));
      refused(x, STATE, "duel(3)", () -> x.duel(3));
    });
  }

  // ---- promises 32 to 34: chances, lots

  /** What odds() and mid() refuse alike. */
  static void chanceRefused(Watch call) {
    edge("BAD", () -> {
      AirTalkers x = air("s011 s011");
      x.odds(1, 3);
      for (int n : new int[] {-1, 41, LOW, HIGH}) refused(x, BAD, "n " + n, () -> call.answer(x, n, 6));
      for (int p : new int[] {-1, 13, LOW, HIGH}) refused(x, BAD, "p " + p, () -> call.answer(x, 1, p));
      due("upper() still", x.upper(), 7);
      due("lower() still", x.lower(), 16);
    });
    edge("STATE: no STATIONS.", () -> {
      AirTalkers x = new AirTalkers();
      refused(x, STATE, "0, 0", () -> call.answer(x, 0, 0));
      refused(x, STATE, "40, 12", () -> call.answer(x, 40, 12));
    });
  }

  static void odds() {
    edge("Chances that nobody who is left has LETTERS behind n (0 .. 40) SLOTS", () -> {
      AirTalkers x = tens(3, 10);
      ratio(x, "odds(39, 0)", x.odds(39, 0), 0, 1);
      ratio(x, "odds(40, 0)", x.odds(40, 0), 1, 1);
      ratio(x, "odds(0, 6): both with LETTERS fall out", x.odds(0, 6), 1, 4);
      AirTalkers none = air("p010 p010");
      ratio(none, "odds(0, 6) without LETTERS", none.odds(0, 6), 1, 1);
    });
    edge("if each STATION falls out now (it talks no more) by p (0 .. 12) of 12, each by itself: 1.", () -> {
      AirTalkers x = air("s011 s011");
      ratio(x, "odds(40, 0): nobody falls out", x.odds(40, 0), 0, 1);
      ratio(x, "odds(0, 12): all fall out", x.odds(0, 12), 1, 1);
      ratio(x, "odds(40, 1): 1 less 121 of 144", x.odds(40, 1), 23, 144);
      ratio(x, "odds(40, 11): 1 less 1 of 144", x.odds(40, 11), 143, 144);
    });
    chanceRefused((x, n, p) -> x.odds(n, p));
  }

  static void mid() {
    edge("The mean of how many LETTERS are HEARD in n SLOTS then: 1.", () -> {
      AirTalkers x = tens(3, 10);
      ratio(x, "mid(0, 0)", x.mid(0, 0), 0, 1);
      ratio(x, "mid(39, 0)", x.mid(39, 0), 12, 1);
      ratio(x, "mid(40, 0)", x.mid(40, 0), 13, 1);
      ratio(x, "mid(40, 12): all fall out", x.mid(40, 12), 0, 1);
      ratio(x, "mid(40, 6): 13, 10, 3 or none", x.mid(40, 6), 13, 2);
      AirTalkers y = behind(5, air("p019 p010"));
      ratio(y, "mid(4, 0), of those ahead none", y.mid(4, 0), 4, 1);
      AirTalkers seven = air("s019s019s019s019s019s019s019");
      ratio(seven, "mid(40, 1): 63 times 11 of 12 to the 7", seven.mid(40, 1), 77, 3981312);
    });
    chanceRefused((x, n, p) -> x.mid(n, p));
  }

  /** By a seed up to 8 the first number is 48271 times it, of which 8 leaves over 8 less the seed; STATION 1 by 6, 7, 8. */
  static void lots() {
    edge("n (1 .. 20) DEEDS truly by LOTS of a seed", () -> {
      AirTalkers x = air("p011 p010");
      x.lots(1, 1);
      due("DEEDS", x.count(2), 1);
      x.lots(20, 1);
      due("DEEDS", x.count(2), 21);
      due("undo(1)", x.undo(1), 20);
    });
    edge("a number comes from the one ahead by 48271 times it modulo 2147483647, the first from the seed (1 .. 2147483646)", () -> {
      AirTalkers x = air("p010 p010"), seven = air(SEVEN);
      due("by 2147483646: 2147435376", x.lots(1, 2147483646), 0);
      is(x, 0, 1, 0, 0);
      is(x, 1, 0, 0, 0);
      due("by 2147483646, of seven", seven.lots(1, 2147483646), 0);
      for (int i = 0; i < 7; i++) is(seven, i, i == 2 ? 1 : 0, 0, 0);
      AirTalkers one = air("p011 p010");
      due("by 1: a SLOT", one.lots(1, 1), 1);
    });
    edge("STATION it by 8, cut, modulo how many there are; if it modulo 8 is 0 or 1, it gets a LETTER, if it has not 30", () -> {
      AirTalkers x = more(air("p010 p010"), 0, 28);
      x.lots(1, 8);
      is(x, 1, 29, 0, 0);
      x.lots(1, 7);
      is(x, 1, 30, 0, 0);
      x.lots(1, 8);
      is(x, 1, 30, 0, 0);
      due("DEEDS, that of nothing, too", x.count(2), 7);
      due("undo(6): that of nothing", x.undo(6), 1);
      due("undo(5)", x.undo(5), 1);
      is(x, 1, 29, 0, 0);
    });
    edge("if it is 2, its queue is DROPPED", () -> {
      AirTalkers x = behind(1, air("p992 p992"));
      x.lots(1, 6);
      is(x, 0, 2, 18, 1);
      is(x, 1, 0, 0, 0);
      due("the SLOT", x.count(1), 1);
    });
    edge("(also if it has none: CLASHES, WAIT 0)", () -> {
      AirTalkers x = behind(1, air("p999 p010"));
      x.lots(1, 6);
      is(x, 1, 0, 0, 0);
      due("DEEDS", x.count(2), 2);
      due("the SLOT", x.count(1), 1);
    });
    outOfReach("(also if it has none: CLASHES, WAIT 0)",
        "That they become 0 can't be seen: LETTERS come to none by being HEARD, LOST or DROPPED, and behind each of these CLASHES and WAIT are 0 already.");
    edge("else there is a SLOT", () -> {
      for (int seed = 1; seed <= 5; seed++) {
        AirTalkers x = air("p010 p019");
        due("lots(1, " + seed + ")", x.lots(1, seed), 1);
        due("the SLOT", x.count(1), 1);
        is(x, 1, 8, 0, 0);
      }
    });
    outOfReach("if it is not SLOT 199", "SLOT 40 is the last one that 40 DEEDS come to; the class looks at it all the same.");
    edge("what can't be is a DEED of nothing: LETTERS HEARD so far.", () -> {
      AirTalkers x = more(behind(3, air("p019 p010")), 0, 27);
      x.give(1, 3);
      long digest = x.digest();
      due("lots(1, 8): HEARD ahead, too", x.lots(1, 8), 3);
      due("DEEDS", x.count(2), 8);
      due("undo(7)", x.undo(7), 1);
      due("digest()", x.digest(), digest);
    });
    lotsRefused();
  }

  static void lotsRefused() {
    edge("BAD", () -> {
      AirTalkers x = air("p010 p010");
      for (int n : new int[] {0, -1, 21, LOW, HIGH}) refused(x, BAD, "lots(" + n + ", 1)", () -> x.lots(n, 1));
      for (int seed : new int[] {0, -1, LOW, 2147483647}) refused(x, BAD, "lots(1, " + seed + ")", () -> x.lots(1, seed));
    });
    edge("STATE: no STATIONS", () -> {
      AirTalkers x = new AirTalkers();
      refused(x, STATE, "lots(1, 1)", () -> x.lots(1, 1));
      refused(x, STATE, "lots(20, 2147483646)", () -> x.lots(20, 2147483646));
    });
    edge("FULL: with n more there would be more than 40 DEEDS.", () -> {
      AirTalkers x = behind(20, air("p010 p010"));
      x.lots(20, 1);
      due("DEEDS behind lots(20, 1)", x.count(2), 40);
      x.undo(21);
      refused(x, FULL, "lots(20, 1): 41", () -> x.lots(20, 1));
      x.lots(18, 1);
      due("DEEDS behind lots(18, 1)", x.count(2), 39);
      refused(x, FULL, "lots(2, 1): 41", () -> x.lots(2, 1));
      x.lots(1, 1);
      due("DEEDS behind lots(1, 1)", x.count(2), 40);
      refused(x, FULL, "lots(1, 1): 41", () -> x.lots(1, 1));
    });
    outOfReach("(FULL last.)", "STATE fits only without STATIONS, and then there are no DEEDS: 20 more are not too many.");
  }

  // ---- promises 35 to 41: what is told

  static void asked() {
    edge("What the latest lay(), at(), mean(), station(), talks(), later(), ends(), clash(), most(), best(), silence(), test()", () -> {
      AirTalkers x = tens(2, 3);
      lay(x, 0, 41, 43);
      told(x, "lay()", x.lay(0, 0, 45), 1, 41);
      told(x, "at()", x.at(0, 1), 1, 43);
      told(x, "mean()", x.mean(0), 1, 44);
      told(x, "station()", x.station(1, 1), 1, 9);
      told(x, "talks()", x.talks(), 3, 0);
      told(x, "later()", x.later(0, 20), 0, 2);
      told(x, "ends()", x.ends(), 23, 0);
      told(x, "clash()", x.clash(), 1, 3);
      told(x, "most()", x.most(40), 1, 3);
      told(x, "best()", x.best(2), 0, 23);
      told(x, "silence()", x.silence(40), 0, 5);
      lay(x, 0, 2);
      told(x, "test()", x.test(2, 0), 1, 6);
    });
    edge("that was not refused (nor answered NONE) told", () -> {
      AirTalkers x = air("s011 s011 p010");
      lay(x, 0, 44);
      x.at(0, 0);
      int[] none = {x.ends(), x.most(100), x.best(2)};
      for (int one : none) due("NONE", one, NONE);
      due("asked() behind NONE", x.asked(), 44);
      int[] refused = {x.lay(0, 1, 0), x.at(6, 0), x.mean(5), x.station(3, 0), x.later(0, 101), x.most(0), x.best(3), x.silence(0), x.test(0, 0)};
      for (int one : refused) due("refused", one < 0 && one != NONE ? 1 : 0, 1);
      due("asked() behind what is refused", x.asked(), 44);
      AirTalkers y = air("p011 p010");
      lay(y, 0, 7);
      y.station(0, 2);
      due("clash()", y.clash(), NONE);
      due("test()", y.test(0, 0), NONE);
      due("asked() behind NONE", y.asked(), 1);
    });
    edge("0 before.", () -> {
      AirTalkers x = new AirTalkers();
      due("asked()", x.asked(), 0);
      x.at(0, 0);
      x.ends();
      due("asked() behind what is refused", x.asked(), 0);
    });
  }

  static void upper() {
    edge("The upper number that was told last; 0 before.", () -> {
      AirTalkers x = air("s011 s011");
      due("upper() before", x.upper(), 0);
      x.odds(1, 13);
      due("upper() behind what is refused", x.upper(), 0);
      x.odds(1, 3);
      due("upper()", x.upper(), 7);
      x.mid(1, 4);
      due("upper()", x.upper(), 4);
    });
  }

  static void lower() {
    edge("Its lower number; 1 before.", () -> {
      AirTalkers x = air("s011 s011");
      due("lower() before", x.lower(), 1);
      x.mid(41, 1);
      due("lower() behind what is refused", x.lower(), 1);
      x.odds(1, 3);
      due("lower()", x.lower(), 16);
      x.mid(1, 0);
      due("lower() of 0", x.lower(), 1);
    });
  }

  static void count() {
    edge("4 HEARD so far, 5 LOST so far, 6 whether anybody talked in the SLOT ahead (1, 0), 7 ROWS, 8 TEXTS that are there, 9 kept AIRS, "
        + "10 DOUBLE ones (LOTTERY, too), 11 POLITE ones (SHY, too).", () -> {
      AirTalkers x = air("y011 y011 l010 d010 o010 s010 p013");
      due("LETTERS of all", x.count(3), 5);
      x.drop(6);
      behind(9, x);
      due("nobody talked in the SLOT ahead", x.count(6), 0);
      x.slot();
      due("who gave up talked in the SLOT ahead", x.count(6), 1);
      x.give(6, 1);
      x.slot();
      x.keep(2);
      for (int r = 0; r < 6; r++) x.row(r, 0);
      for (int t = 1; t < 4; t++) x.text(t, 0);
      int[] counts = {7, 11, 13, 0, 1, 2, 1, 6, 4, 1, 2, 3};
      for (int what = 0; what < 12; what++) due("count(" + what + ")", x.count(what), counts[what]);
      due("undo(0)", x.undo(0), 13);
      due("HEARD, LOST with all undone", x.count(4) + x.count(5), 0);
      AirTalkers most = more(air("p019p019p019p019p019p019p019"), 21, 21, 21, 21, 21, 21, 21);
      due("LETTERS of all: 7 times 30", most.count(3), 210);
    });
    edge("BAD", () -> {
      AirTalkers x = air("p010 p010");
      for (int what : new int[] {-1, 12, LOW, HIGH}) refused(x, BAD, "count(" + what + ")", () -> x.count(what));
    });
  }

  static void finding() {
    edge("The latest FINDING (0 before any).", () -> {
      AirTalkers x = air("p010 p010");
      due("finding() before", x.finding(), 0);
      x.station(2, 0);
      x.drop(0);
      due("finding() behind BAD, STATE", x.finding(), 0);
      x.mark(0, 1);
      due("finding() behind UNLIKE", x.finding(), UNLIKE);
      x.tear(0);
      due("finding() behind NOTHING", x.finding(), NOTHING);
      x.row(0, 0);
      due("finding() behind what is not refused", x.finding(), NOTHING);
    });
  }

  static void findings() {
    edge("How often a FINDING (1 .. 5) was answered.", () -> {
      AirTalkers x = new AirTalkers(), often = new AirTalkers();
      for (int f = 1; f <= 5; f++) due("findings(" + f + ") before", x.findings(f), 0);
      for (int n = 0; n < 511; n++) often.tear(5);
      due("findings(1) as the 512th call", often.findings(1), 511);
    });
    edge("BAD", () -> {
      AirTalkers x = new AirTalkers();
      x.tear(0);
      for (int f : new int[] {0, 6, -1, LOW, HIGH}) refused(x, BAD, "findings(" + f + ")", () -> x.findings(f));
    });
  }

  static long wrappedAround(int... values) {
    BigInteger h = BigInteger.valueOf(17);
    for (int v : values) h = h.multiply(BigInteger.valueOf(31)).add(BigInteger.valueOf(v));
    return h.longValue();
  }

  static void digest() {
    edge("h = 17; then h = 31 h + v for each v: count() 0 to 11; of each STATION station() 0 to 6; of each kept AIR how many DEEDS (-1: missing); "
        + "of each ROW its size (-1: missing) and places, of each TEXT likewise.", () -> {
      AirTalkers x = new AirTalkers();
      due("digest() of what is missing", x.digest(), wrappedAround(0, 0, 0, 0, 0, 0, 0, 0, 0, 0, 0, 0, -1, -1, -1, -1, -1, -1, -1, -1, -1, -1, -1, -1, -1));
      x.row(0, 0);
      x.text(3, 0);
      due("digest() of sizes 0", x.digest(), wrappedAround(0, 0, 0, 0, 0, 0, 0, 1, 1, 0, 0, 0, -1, -1, -1, 0, -1, -1, -1, -1, -1, -1, -1, -1, 0));
      AirTalkers y = behind(1, air("o111l111"));
      lay(y, 5, LOW, HIGH);
      y.text(1, 1);
      y.put(1, 0, 128);
      y.keep(2);
      due("digest(), wrapped around", y.digest(), wrappedAround(2, 1, 1, 2, 0, 0, 1, 1, 2, 1, 1, 1, 2, 1, 1, 1, 2, 1, 0, 4, 1, 1, 1, 0, 1, 1,
          -1, -1, 1, -1, -1, -1, -1, -1, 2, LOW, HIGH, 8, 111, 49, 49, 49, 108, 49, 49, 49, 1, -128, -1, -1));
      y.tear(5);
      y.row(5, 0);
      due("digest() with a ROW of none", y.digest(), wrappedAround(2, 1, 1, 2, 0, 0, 1, 1, 2, 1, 1, 1, 2, 1, 1, 1, 2, 1, 0, 4, 1, 1, 1, 0, 1, 1,
          -1, -1, 1, -1, -1, -1, -1, -1, 0, 8, 111, 49, 49, 49, 108, 49, 49, 49, 1, -128, -1, -1));
    });
  }

  // ---- all of them

  static void terms() {
    refusals();
    findingsOfTerms();
    lowestTerms();
    sizes();
    faults();
    waits();
    slotsOfTerms();
    asides();
  }

  public static void main(String[] args) throws Exception {
    readDocument();
    terms();
    Runnable[] promises = {AirTalkersEdgesTest::newObject, AirTalkersEdgesTest::row, AirTalkersEdgesTest::layCall, AirTalkersEdgesTest::atCall, AirTalkersEdgesTest::tear,
      AirTalkersEdgesTest::copy, AirTalkersEdgesTest::means, AirTalkersEdgesTest::text, AirTalkersEdgesTest::put, AirTalkersEdgesTest::faultCall,
      AirTalkersEdgesTest::airCall, AirTalkersEdgesTest::station, AirTalkersEdgesTest::mark, AirTalkersEdgesTest::slot, AirTalkersEdgesTest::give,
      AirTalkersEdgesTest::drop, AirTalkersEdgesTest::first, AirTalkersEdgesTest::undo, AirTalkersEdgesTest::keep, AirTalkersEdgesTest::on,
      AirTalkersEdgesTest::talks, AirTalkersEdgesTest::later, AirTalkersEdgesTest::ends, AirTalkersEdgesTest::clash, AirTalkersEdgesTest::most,
      AirTalkersEdgesTest::best, AirTalkersEdgesTest::silence, AirTalkersEdgesTest::kinds, AirTalkersEdgesTest::firsts, AirTalkersEdgesTest::test,
      AirTalkersEdgesTest::duel, AirTalkersEdgesTest::odds, AirTalkersEdgesTest::mid, AirTalkersEdgesTest::lots, AirTalkersEdgesTest::asked,
      AirTalkersEdgesTest::upper, AirTalkersEdgesTest::lower, AirTalkersEdgesTest::count, AirTalkersEdgesTest::finding, AirTalkersEdgesTest::findings,
      AirTalkersEdgesTest::digest};
    for (int p = 1; p <= PROMISES; p++) {
      promise = p;
      promises[p - 1].run();
    }
    allIsQuoted();
    System.out.println(wrong == 0 ? edges + " edges are kept" : wrong + " answers are not as due");
    if (wrong != 0) System.exit(1);
  }
}
