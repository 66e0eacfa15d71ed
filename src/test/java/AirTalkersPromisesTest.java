/**
 * The promises of the document one by one, with answers worked out by hand; but for the two airs that end
 * in just 200 slots (edgeOfEnd, bests): those a search by the class found, and the model answers the same.
 */
public final class AirTalkersPromisesTest {
  static final int BAD = -1, FULL = -2, FINDING = -3, STATE = -4, SPENT = -6, NONE = -9;
  static final int LOW = Integer.MIN_VALUE, HIGH = Integer.MAX_VALUE;
  static int wrong = 0;
  static int promise = 0;

  static void due(String call, long got, long want) {
    if (got != want) {
      wrong++;
      System.out.println("promise " + promise + ": " + call + " answered " + got + ", due is " + want);
    }
  }

  /** A finding: the answer, which one, and that nothing else is changed. */
  static void found(AirTalkers x, int f, String call, java.util.function.IntSupplier make) {
    long digest = x.digest();
    int asked = x.asked();
    int often = x.findings(f);
    due(call, make.getAsInt(), FINDING);
    due(call + ": finding()", x.finding(), f);
    due(call + ": findings()", x.findings(f), often + 1);
    due(call + ": digest()", x.digest(), digest);
    due(call + ": asked()", x.asked(), asked);
  }

  /** Another refusal: the answer, and that nothing is changed. */
  static void refused(AirTalkers x, int want, String call, java.util.function.IntSupplier make) {
    long digest = x.digest();
    int asked = x.asked();
    int finding = x.finding();
    due(call, make.getAsInt(), want);
    due(call + ": digest()", x.digest(), digest);
    due(call + ": asked()", x.asked(), asked);
    due(call + ": finding()", x.finding(), finding);
  }

  static void told(AirTalkers x, String call, int got, int want, int asked) {
    due(call, got, want);
    due(call + ": asked()", x.asked(), asked);
  }

  static void ratio(AirTalkers x, String call, int got, long upper, long lower) {
    due(call, got, 1);
    due(call + ": upper()", x.upper(), upper);
    due(call + ": lower()", x.lower(), lower);
  }

  static void write(AirTalkers x, int t, String text) {
    x.text(t, text.length());
    for (int i = 0; i < text.length(); i++) x.put(t, i, text.charAt(i));
  }

  static AirTalkers airOf(String text) {
    AirTalkers x = new AirTalkers();
    write(x, 0, text);
    x.air(0);
    return x;
  }

  static AirTalkers airBehind(String text, int slots) {
    AirTalkers x = airOf(text);
    for (int n = 0; n < slots; n++) x.slot();
    return x;
  }

  static void lay(AirTalkers x, int r, int... numbers) {
    x.row(r, numbers.length);
    for (int i = 0; i < numbers.length; i++) x.lay(r, i, numbers[i]);
  }

  static int of(AirTalkers x, int i, int what) { return x.station(i, what) == 1 ? x.asked() : 12345; }

  static void is(AirTalkers x, int i, int letters, int wait, int clashes) {
    due("LETTERS of " + i, of(x, i, 3), letters);
    due("WAIT of " + i, of(x, i, 4), wait);
    due("CLASHES of " + i, of(x, i, 5), clashes);
  }

  static void newObject() {
    AirTalkers x = new AirTalkers();
    for (int what = 0; what < 12; what++) due("count(" + what + ")", x.count(what), 0);
    for (int r = 0; r < 6; r++) due("tear(" + r + ")", x.tear(r), FINDING);
    for (int t = 0; t < 4; t++) due("fault(" + t + ")", x.fault(t), FINDING);
    for (int k = 0; k < 3; k++) due("on(" + k + ")", x.on(k), FINDING);
    due("station(0, 0)", x.station(0, 0), BAD);
    due("talks()", x.talks(), 0);
    due("undo(0)", x.undo(0), 0);
  }

  static void rows() {
    AirTalkers x = new AirTalkers();
    due("row(0, 0)", x.row(0, 0), 0);
    due("row(5, 40)", x.row(5, 40), 40);
    due("lay(5, 0, 8)", x.lay(5, 0, 8), 1);
    due("lay(5, 39, 7)", x.lay(5, 39, 7), 1);
    due("row(5, 40) anew", x.row(5, 40), 40);
    told(x, "at(5, 0) anew", x.at(5, 0), 1, 0);
    told(x, "at(5, 39) anew", x.at(5, 39), 1, 0);
    refused(x, BAD, "row(-1, 0)", () -> x.row(-1, 0));
    refused(x, BAD, "row(6, 0)", () -> x.row(6, 0));
    refused(x, BAD, "row(0, 41)", () -> x.row(0, 41));
    refused(x, BAD, "row(6, -1)", () -> x.row(6, -1));
    found(x, 5, "row(0, -1)", () -> x.row(0, -1));
    found(x, 5, "row(0, LOW)", () -> x.row(0, LOW));
    due("count(7)", x.count(7), 2);
  }

  static void lays() {
    AirTalkers x = new AirTalkers();
    x.row(1, 3);
    told(x, "lay(1, 2, 9)", x.lay(1, 2, 9), 1, 0);
    told(x, "lay(1, 2, LOW)", x.lay(1, 2, LOW), 1, 9);
    told(x, "lay(1, 2, HIGH)", x.lay(1, 2, HIGH), 1, LOW);
    refused(x, BAD, "lay(6, 0, 0)", () -> x.lay(6, 0, 0));
    refused(x, BAD, "lay(-1, 0, 0)", () -> x.lay(-1, 0, 0));
    found(x, 1, "lay(0, 9, 0)", () -> x.lay(0, 9, 0));
    found(x, 2, "lay(1, 3, 1)", () -> x.lay(1, 3, 1));
    found(x, 2, "lay(1, -1, 1)", () -> x.lay(1, -1, 1));
  }

  static void ats() {
    AirTalkers x = new AirTalkers();
    lay(x, 1, 4, -5, 6);
    told(x, "at(1, 0)", x.at(1, 0), 1, 4);
    told(x, "at(1, 1)", x.at(1, 1), 1, -5);
    told(x, "at(1, 2)", x.at(1, 2), 1, 6);
    refused(x, BAD, "at(6, 0)", () -> x.at(6, 0));
    refused(x, BAD, "at(-1, 0)", () -> x.at(-1, 0));
    found(x, 1, "at(0, 0)", () -> x.at(0, 0));
    found(x, 2, "at(1, 3)", () -> x.at(1, 3));
    found(x, 2, "at(1, LOW)", () -> x.at(1, LOW));
  }

  static void tears() {
    AirTalkers x = new AirTalkers();
    x.row(3, 2);
    due("tear(3)", x.tear(3), 1);
    due("count(7)", x.count(7), 0);
    found(x, 1, "tear(3) again", () -> x.tear(3));
    refused(x, BAD, "tear(6)", () -> x.tear(6));
    refused(x, BAD, "tear(-1)", () -> x.tear(-1));
  }

  static void copies() {
    AirTalkers x = new AirTalkers();
    lay(x, 0, 1, 2, 3, 4);
    lay(x, 1, 9, 9);
    due("copy(0, 0, 0, 1, 3)", x.copy(0, 0, 0, 1, 3), 1);
    int[] right = {1, 1, 2, 3};
    for (int i = 0; i < 4; i++) told(x, "to itself, on: at(0, " + i + ")", x.at(0, i), 1, right[i]);
    due("copy(0, 1, 0, 0, 3)", x.copy(0, 1, 0, 0, 3), 1);
    int[] left = {1, 2, 3, 3};
    for (int i = 0; i < 4; i++) told(x, "to itself, back: at(0, " + i + ")", x.at(0, i), 1, left[i]);
    due("copy(0, 1, 1, 0, 2)", x.copy(0, 1, 1, 0, 2), 1);
    told(x, "at(1, 0)", x.at(1, 0), 1, 2);
    told(x, "at(1, 1)", x.at(1, 1), 1, 3);
    due("copy(0, 4, 1, 2, 0)", x.copy(0, 4, 1, 2, 0), 1);
    refused(x, BAD, "copy(6, 0, 0, 0, 0)", () -> x.copy(6, 0, 0, 0, 0));
    refused(x, BAD, "copy(0, 0, -1, 0, -1)", () -> x.copy(0, 0, -1, 0, -1));
    found(x, 5, "copy(5, 0, 0, 0, -1)", () -> x.copy(5, 0, 0, 0, -1));
    found(x, 1, "copy(5, 0, 0, 9, 9)", () -> x.copy(5, 0, 0, 9, 9));
    found(x, 1, "copy(0, 9, 5, 0, 9)", () -> x.copy(0, 9, 5, 0, 9));
    found(x, 2, "copy(0, 0, 1, 0, 3)", () -> x.copy(0, 0, 1, 0, 3));
    found(x, 2, "copy(1, 0, 0, 0, 3)", () -> x.copy(1, 0, 0, 0, 3));
    found(x, 2, "copy(0, -1, 0, 0, 1)", () -> x.copy(0, -1, 0, 0, 1));
    found(x, 2, "copy(0, 0, 0, -1, 1)", () -> x.copy(0, 0, 0, -1, 1));
    found(x, 2, "copy(0, HIGH, 0, 0, HIGH)", () -> x.copy(0, HIGH, 0, 0, HIGH));
    found(x, 2, "copy(0, 1, 0, 0, HIGH)", () -> x.copy(0, 1, 0, 0, HIGH));
  }

  static void means() {
    AirTalkers x = new AirTalkers();
    lay(x, 0, 1, 2, 4);
    told(x, "mean of 7 by 3", x.mean(0), 1, 2);
    lay(x, 0, -1, -2, -4);
    told(x, "mean of -7 by 3", x.mean(0), 1, -2);
    lay(x, 0, -7);
    told(x, "mean of one", x.mean(0), 1, -7);
    lay(x, 0, HIGH, HIGH);
    told(x, "mean of the highest", x.mean(0), 1, HIGH);
    lay(x, 0, LOW, LOW, LOW);
    told(x, "mean of the lowest", x.mean(0), 1, LOW);
    x.row(1, 0);
    found(x, 4, "mean(1)", () -> x.mean(1));
    found(x, 1, "mean(2)", () -> x.mean(2));
    refused(x, BAD, "mean(6)", () -> x.mean(6));
    refused(x, BAD, "mean(-1)", () -> x.mean(-1));
  }

  static void texts() {
    AirTalkers x = new AirTalkers();
    due("text(0, 0)", x.text(0, 0), 0);
    due("text(3, 60)", x.text(3, 60), 60);
    due("put(3, 59, 1)", x.put(3, 59, 1), 1032);
    due("text(3, 60) anew", x.text(3, 60), 60);
    due("put(3, 59, 1) anew", x.put(3, 59, 1), 1032);
    due("count(8)", x.count(8), 2);
    refused(x, BAD, "text(4, 0)", () -> x.text(4, 0));
    refused(x, BAD, "text(-1, -1)", () -> x.text(-1, -1));
    refused(x, BAD, "text(0, 61)", () -> x.text(0, 61));
    found(x, 5, "text(0, -1)", () -> x.text(0, -1));
  }

  static void puts() {
    AirTalkers x = new AirTalkers();
    x.text(1, 2);
    due("put(1, 0, 200)", x.put(1, 0, 200), 1032);
    due("put(1, 0, 127)", x.put(1, 0, 127), 944);
    due("put(1, 0, 384)", x.put(1, 0, 384), 1127);
    due("put(1, 0, 0)", x.put(1, 0, 0), 872);
    due("put(1, 1, 0)", x.put(1, 1, 0), 1032);
    refused(x, BAD, "put(4, 0, 0)", () -> x.put(4, 0, 0));
    refused(x, BAD, "put(-1, 0, 0)", () -> x.put(-1, 0, 0));
    found(x, 1, "put(0, 5, 0)", () -> x.put(0, 5, 0));
    found(x, 2, "put(1, 2, 0)", () -> x.put(1, 2, 0));
    found(x, 2, "put(1, -1, 0)", () -> x.put(1, -1, 0));
  }

  static void fault(String text, int want) {
    AirTalkers x = new AirTalkers();
    write(x, 2, text);
    due("fault of '" + text + "'", x.fault(2), want);
    due("air of '" + text + "'", x.air(2) == STATE ? 1 : 0, want == NONE ? 0 : 1);
  }

  static void faults() {
    fault("p010p010", NONE);
    fault("  p999   d010 o010s010l010y019  ", NONE);
    fault("p010p010p010p010p010p010p010", NONE);
    fault("p010p010p010p010p010p010p010p", 28);
    fault("p010p010p010p010p010p010p010 x", 29);
    fault("", 0);
    fault("   ", 3);
    fault("p010", 4);
    fault("p010   ", 7);
    fault("p010 p01", 8);
    fault("p010 p0", 7);
    fault("p010 p", 6);
    fault("p010 p01 ", 8);
    fault("p010 p 10", 6);
    fault("p000 p010", 2);
    fault("p0a0 p010", 2);
    fault("pa10 p010", 1);
    fault("p01/ p010", 3);
    fault("p01: p010", 3);
    fault("P010 p010", 0);
    fault("p010 7010", 5);
    fault("p010 p010\t", 9);
    AirTalkers shorter = new AirTalkers();
    write(shorter, 0, "p010 p010");
    write(shorter, 0, "p010 p01");
    due("fault of a TEXT that was longer", shorter.fault(0), 8);
    AirTalkers x = new AirTalkers();
    refused(x, BAD, "fault(4)", () -> x.fault(4));
    refused(x, BAD, "fault(-1)", () -> x.fault(-1));
    found(x, 1, "fault(0)", () -> x.fault(0));
    write(x, 0, "p010p010");
    x.put(0, 4, 112 - 256);
    due("fault of a byte cut", x.fault(0), NONE);
    x.put(0, 4, 240);
    due("fault of a byte below 0", x.fault(0), 4);
  }

  static void airs() {
    AirTalkers x = new AirTalkers();
    write(x, 0, "p123 d456 l789");
    due("air(0)", x.air(0), 3);
    x.slot();
    x.keep(0);
    x.keep(1);
    x.keep(2);
    write(x, 1, "y019 s910");
    write(x, 2, "y019");
    refused(x, BAD, "air(4)", () -> x.air(4));
    refused(x, BAD, "air(-1)", () -> x.air(-1));
    found(x, 1, "air(3)", () -> x.air(3));
    refused(x, STATE, "air(2)", () -> x.air(2));
    due("air(1)", x.air(1), 2);
    int[] counts = {2, 0, 0, 9, 0, 0, 0, 0, 3, 0, 0, 1};
    for (int what = 0; what < 12; what++) due("count(" + what + ") anew", x.count(what), counts[what]);
    is(x, 0, 9, 0, 0);
    is(x, 1, 0, 0, 0);
    due("station(2, 0)", x.station(2, 0), BAD);
    due("undo(0)", x.undo(0), 0);
    due("KIND", of(x, 0, 0), 5);
  }

  static void stations() {
    AirTalkers x = airOf("p123 d456 o789 s987 l654 y321 p010");
    int[][] told = {{0, 1, 2, 3}, {1, 4, 5, 6}, {2, 7, 8, 9}, {3, 9, 8, 7}, {4, 6, 5, 4}, {5, 3, 2, 1}, {0, 0, 1, 0}};
    for (int i = 0; i < 7; i++) {
      for (int what = 0; what < 4; what++) told(x, "station(" + i + ", " + what + ")", x.station(i, what), 1, told[i][what]);
      told(x, "station(" + i + ", 6)", x.station(i, 6), 1, i == 6 ? 0 : 1);
    }
    x.slot();
    told(x, "WAIT", x.station(1, 4), 1, 9);
    told(x, "CLASHES", x.station(1, 5), 1, 1);
    told(x, "WANTS while it WAITS", x.station(1, 6), 1, 0);
    refused(x, BAD, "station(7, 0)", () -> x.station(7, 0));
    refused(x, BAD, "station(-1, 0)", () -> x.station(-1, 0));
    refused(x, BAD, "station(0, 7)", () -> x.station(0, 7));
    refused(x, BAD, "station(0, -1)", () -> x.station(0, -1));
    AirTalkers polite = airBehind("p013 o012 y012", 0);
    polite.drop(1);
    polite.drop(2);
    polite.slot();
    polite.give(1, 1);
    told(polite, "WANTS behind one who talked", polite.station(1, 6), 1, 0);
  }

  static void marks() {
    AirTalkers x = airOf("p123 d124 o010 s314 l243 y011");
    due("mark(1, 1)", x.mark(1, 1), 100);
    due("mark(4, 1)", x.mark(4, 1), 94);
    due("mark(3, 3)", x.mark(3, 3), 1);
    due("mark(4, 4)", x.mark(4, 4), 6);
    due("mark(5, 5)", x.mark(5, 5), 4);
    x.slot();
    due("mark(1, 1) at CLASH 2", x.mark(1, 1), 100);
    due("mark(4, 1) at CLASH 2", x.mark(4, 1), 94);
    due("mark(4, 4) at CLASH 2", x.mark(4, 4), 6);
    due("mark(3, 3) at CLASH 2", x.mark(3, 3), 2);
    due("mark(5, 5) at CLASH 2", x.mark(5, 5), 3);
    due("mark(2, 2) without LETTERS", x.mark(2, 2), 0);
    due("mark(5, 2) while it WAITS", x.mark(5, 2), 0);
    x.give(2, 1);
    due("mark(2, 2)", x.mark(2, 2), 1);
    int[] ofKind = {1, 3, 5, 9, 19, 37};
    for (int i = 0; i < 6; i++) {
      for (int kind = 1; kind < 6; kind++) {
        int station = i, as = kind;
        if ((ofKind[i] >> kind & 1) == 0) found(x, 3, "mark(" + i + ", " + kind + ")", () -> x.mark(station, as));
        else due("mark(" + i + ", " + kind + ")", x.mark(i, kind) >= 0 ? 1 : 0, 1);
      }
    }
    refused(x, BAD, "mark(0, 0)", () -> x.mark(0, 0));
    refused(x, BAD, "mark(0, 6)", () -> x.mark(0, 6));
    refused(x, BAD, "mark(6, 1)", () -> x.mark(6, 1));
    refused(x, BAD, "mark(-1, 1)", () -> x.mark(-1, 1));
    AirTalkers longer = airBehind("d099 s099", 3);
    due("mark of a DOUBLE one at CLASH 2: 18 by 18", longer.mark(0, 1), 100);
    AirTalkers shy = airBehind("y011 y011 y011", 9);
    due("mark(0, 5) ahead of giving up", shy.mark(0, 5), 1);
  }

  static void slots() {
    AirTalkers x = airOf("p022 d012 o010 s112 l232 y011");
    due("all talk", x.slot(), 5);
    is(x, 0, 2, 2, 1);
    is(x, 1, 2, 1, 1);
    is(x, 2, 0, 0, 0);
    is(x, 3, 2, 1, 1);
    is(x, 4, 2, 0, 1);
    is(x, 5, 1, 1, 1);
    due("the LOTTERY one is alone", x.slot(), 1);
    is(x, 0, 2, 1, 1);
    is(x, 4, 1, 0, 0);
    due("HEARD", x.count(4), 1);
    due("the SHY one listens, three talk", x.slot(), 3);
    is(x, 0, 2, 0, 1);
    is(x, 1, 2, 2, 2);
    is(x, 3, 2, 1, 2);
    is(x, 4, 1, 0, 1);
    is(x, 5, 1, 0, 1);
    due("the SLOT", x.count(1), 3);
    AirTalkers shy = airOf("y012 y012");
    int[] talk = {2, 0, 2, 0, 0, 2, 0, 0, 0, 2, 0, 2};
    for (int n = 0; n < talk.length; n++) {
      if (n == 10) {
        is(shy, 0, 1, 0, 0);
        due("LOST", shy.count(5), 2);
        due("POLITE ones hold back", shy.mark(0, 2), 1);
      }
      due("SHY ones in SLOT " + n, shy.slot(), talk[n]);
    }
    AirTalkers full = airBehind("p010 p010", 40);
    due("the SLOT", full.count(1), 40);
    refused(full, FULL, "slot() 41", () -> full.slot());
    AirTalkers none = new AirTalkers();
    refused(none, STATE, "slot() without STATIONS", () -> none.slot());
    capped();
  }

  /** 64 in all at most: a DOUBLE one of STEP 9 would WAIT 72 behind CLASH 4, a PLAIN one 279 behind CLASH 31. */
  static void capped() {
    AirTalkers x = airBehind("d091 s091 s091", 30);
    is(x, 0, 1, 36, 3);
    is(x, 1, 1, 0, 30);
    due("mark(0, 1)", x.mark(0, 1), 128);
    due("mark(1, 3)", x.mark(1, 3), 64);
  }

  static void gives() {
    AirTalkers x = airOf("p019 p011");
    due("give(0, 1)", x.give(0, 1), 10);
    due("give(0, 9)", x.give(0, 9), 19);
    due("give(0, 9)", x.give(0, 9), 28);
    refused(x, SPENT, "give(0, 3)", () -> x.give(0, 3));
    due("give(0, 2)", x.give(0, 2), 30);
    refused(x, SPENT, "give(0, 1)", () -> x.give(0, 1));
    refused(x, BAD, "give(0, 0)", () -> x.give(0, 0));
    refused(x, BAD, "give(0, 10)", () -> x.give(0, 10));
    refused(x, BAD, "give(0, HIGH)", () -> x.give(0, HIGH));
    refused(x, BAD, "give(2, 1)", () -> x.give(2, 1));
    refused(x, BAD, "give(-1, 1)", () -> x.give(-1, 1));
    due("DEEDS", x.count(2), 4);
    for (int n = 4; n < 39; n++) x.first(1, 1 - n % 2);
    due("the 40th DEED", x.give(1, 1), 2);
    refused(x, FULL, "give(1, 1)", () -> x.give(1, 1));
    refused(x, SPENT, "give(0, 1): FULL last", () -> x.give(0, 9));
    AirTalkers waits = airBehind("p112 p212", 1);
    waits.give(0, 1);
    is(waits, 0, 3, 2, 1);
  }

  static void drops() {
    AirTalkers x = airBehind("p112 p212 p010", 1);
    due("drop(0)", x.drop(0), 2);
    is(x, 0, 0, 0, 0);
    is(x, 1, 2, 3, 1);
    refused(x, STATE, "drop(0) again", () -> x.drop(0));
    refused(x, STATE, "drop(2)", () -> x.drop(2));
    refused(x, BAD, "drop(3)", () -> x.drop(3));
    refused(x, BAD, "drop(-1)", () -> x.drop(-1));
    due("neither HEARD nor LOST", x.count(4) + x.count(5), 0);
    x.give(1, 9);
    x.give(1, 9);
    for (int n = 4; n < 39; n++) x.first(0, n % 2 * 2);
    due("the 40th DEED", x.drop(1), 20);
    due("DEEDS", x.count(2), 40);
    x.undo(39);
    x.slot();
    refused(x, FULL, "drop(1)", () -> x.drop(1));
    refused(x, STATE, "drop(0): FULL last", () -> x.drop(0));
  }

  static void firstWaits() {
    AirTalkers x = airBehind("p112 p212", 1);
    due("first(0, 9)", x.first(0, 9), 1);
    due("first(0, 0)", x.first(0, 0), 9);
    is(x, 0, 2, 2, 1);
    refused(x, STATE, "first(0, 0)", () -> x.first(0, 0));
    refused(x, BAD, "first(0, 10)", () -> x.first(0, 10));
    refused(x, BAD, "first(0, -1)", () -> x.first(0, -1));
    refused(x, BAD, "first(2, 0)", () -> x.first(2, 0));
    for (int n = 3; n < 39; n++) x.slot();
    due("the 40th DEED", x.first(0, 4), 0);
    refused(x, FULL, "first(0, 5)", () -> x.first(0, 5));
    refused(x, STATE, "first(0, 4): FULL last", () -> x.first(0, 4));
  }

  static void undoes() {
    AirTalkers y = airOf("y012 l232 p112");
    long[] at = new long[21];
    for (int n = 0; n < 20; n++) {
      at[n] = y.digest();
      if (n == 5) y.give(0, 3);
      else if (n == 9) y.first(1, 7);
      else if (n == 12) y.give(2, 9);
      else if (n == 15) y.drop(2);
      else y.slot();
    }
    due("DEEDS", y.count(2), 20);
    refused(y, BAD, "undo(21)", () -> y.undo(21));
    refused(y, BAD, "undo(-1)", () -> y.undo(-1));
    refused(y, 0, "undo(20)", () -> y.undo(20));
    due("undo(16)", y.undo(16), 4);
    due("digest() behind undo(16)", y.digest(), at[16]);
    due("undo(9)", y.undo(9), 7);
    due("digest() behind undo(9)", y.digest(), at[9]);
    due("undo(0)", y.undo(0), 9);
    due("digest() behind undo(0)", y.digest(), at[0]);
  }

  static void keeps() {
    AirTalkers x = airBehind("p112 p212", 4);
    due("keep(0)", x.keep(0), 4);
    due("keep(2)", x.keep(2), 4);
    due("kept", x.count(9), 2);
    x.slot();
    due("keep(0) anew", x.keep(0), 5);
    due("kept", x.count(9), 2);
    refused(x, BAD, "keep(3)", () -> x.keep(3));
    refused(x, BAD, "keep(-1)", () -> x.keep(-1));
    AirTalkers none = new AirTalkers();
    refused(none, STATE, "keep(0) without STATIONS", () -> none.keep(0));
    refused(none, BAD, "keep(3) without STATIONS", () -> none.keep(3));
  }

  static void goesOn() {
    AirTalkers x = airBehind("p112 p212", 4);
    x.give(1, 3);
    x.keep(1);
    long kept = x.digest();
    x.undo(2);
    x.drop(0);
    due("on(1)", x.on(1), 5);
    due("digest()", x.digest(), kept);
    due("DEEDS", x.count(2), 5);
    due("undo(4)", x.undo(4), 1);
    is(x, 1, 2, 0, 1);
    due("on(1) again", x.on(1), 5);
    found(x, 1, "on(0)", () -> x.on(0));
    refused(x, BAD, "on(3)", () -> x.on(3));
    refused(x, BAD, "on(-1)", () -> x.on(-1));
    x.air(0);
    found(x, 1, "on(1) behind air()", () -> x.on(1));
  }

  static void whoTalks() {
    AirTalkers x = airOf("p112 p212 p010");
    told(x, "talks()", x.talks(), 3, 0);
    due("DEEDS", x.count(2), 0);
    x.slot();
    told(x, "talks() while all WAIT", x.talks(), 0, 0);
    x.slot();
    x.slot();
    told(x, "talks() alone", x.talks(), 1, 1);
    x.slot();
    told(x, "talks() together", x.talks(), 3, 0);
    AirTalkers none = new AirTalkers();
    told(none, "talks() without STATIONS", none.talks(), 0, 0);
  }

  static void laters() {
    AirTalkers x = airOf("p013 p010");
    long digest = x.digest();
    told(x, "later(0, 0)", x.later(0, 0), 3, 0);
    told(x, "later(0, 2)", x.later(0, 2), 1, 2);
    told(x, "later(0, 100)", x.later(0, 100), 0, 3);
    told(x, "later(1, 2)", x.later(1, 2), 0, 2);
    due("digest()", x.digest(), digest);
    x.slot();
    told(x, "later(0, 1) behind a SLOT", x.later(0, 1), 1, 1);
    refused(x, BAD, "later(0, 101)", () -> x.later(0, 101));
    refused(x, BAD, "later(0, -1)", () -> x.later(0, -1));
    refused(x, BAD, "later(2, 0)", () -> x.later(2, 0));
    refused(x, BAD, "later(-1, 0)", () -> x.later(-1, 0));
  }

  static void end() {
    AirTalkers x = airOf("p013 p010");
    told(x, "ends()", x.ends(), 3, 0);
    x.slot();
    told(x, "ends() behind a SLOT", x.ends(), 2, 0);
    x.drop(0);
    told(x, "ends() now", x.ends(), 0, 0);
    AirTalkers shy = airOf("y011 y011");
    told(shy, "ends() of SHY ones", shy.ends(), 10, 2);
    for (int n = 0; n < 10; n++) shy.slot();
    told(shy, "ends() of SHY ones, all LOST ahead", shy.ends(), 0, 0);
    endBehindLost();
    AirTalkers never = airOf("s011 s011");
    refused(never, NONE, "ends() of STUBBORN ones", () -> never.ends());
    AirTalkers none = new AirTalkers();
    refused(none, STATE, "ends() without STATIONS", () -> none.ends());
    edgeOfEnd();
  }

  /** Both give up in the SLOTS 9 and 20: what was LOST ahead of the call is none of what it tells. */
  static void endBehindLost() {
    AirTalkers x = airOf("y012 y012");
    told(x, "ends() of SHY ones, none LOST yet", x.ends(), 21, 4);
    for (int n = 0; n < 9; n++) x.slot();
    told(x, "ends() in the SLOT of giving up", x.ends(), 12, 4);
    x.slot();
    told(x, "ends() behind giving up", x.ends(), 11, 2);
    due("LOST so far", x.count(5), 2);
    x.slot();
    x.drop(0);
    told(x, "ends() of one that is alone", x.ends(), 1, 0);
    x.undo(11);
    told(x, "ends() with that undone", x.ends(), 10, 2);
  }

  /** s0 clashes with s1 in every second SLOT: 2 for each LETTER of it, then 1 for each of the other one. */
  static AirTalkers slow(int letters0, int letters1) {
    AirTalkers x = airOf("s010 s110");
    for (int i = 0, n = letters0; i < 2; i++, n = letters1) {
      for (; n > 0; n -= 9) x.give(i, Math.min(9, n));
    }
    return x;
  }

  static void edgeOfEnd() {
    AirTalkers x = slow(30, 30);
    told(x, "ends()", x.ends(), 90, 0);
    AirTalkers edge = airOf("y676y673y037l063");
    refused(edge, NONE, "ends() in 201", () -> edge.ends());
    due("duel(0) in 201", edge.duel(0), 201);
    edge.slot();
    due("ends() in 200", edge.ends(), 200);
    due("duel(0) in 200", edge.duel(0), 200);
    edge.slot();
    due("ends() in 199", edge.ends(), 199);
  }

  static void clashes() {
    AirTalkers x = airOf("p112 p212 p010");
    told(x, "clash() now", x.clash(), 1, 3);
    x.slot();
    told(x, "clash() in four", x.clash(), 4, 3);
    AirTalkers never = airOf("p012 p010");
    refused(never, NONE, "clash() never", () -> never.clash());
    AirTalkers none = new AirTalkers();
    refused(none, STATE, "clash() without STATIONS", () -> none.clash());
  }

  static void mostHeard() {
    AirTalkers x = airOf("p111 p211");
    told(x, "most(100)", x.most(100), 0, 1);
    told(x, "most(4)", x.most(4), 0, 1);
    refused(x, NONE, "most(3)", () -> x.most(3));
    refused(x, NONE, "most(1)", () -> x.most(1));
    AirTalkers y = airOf("p111 p212");
    told(y, "most(100)", y.most(100), 1, 2);
    told(y, "most(5)", y.most(5), 0, 1);
    refused(y, BAD, "most(0)", () -> y.most(0));
    refused(y, BAD, "most(101)", () -> y.most(101));
    AirTalkers none = new AirTalkers();
    refused(none, BAD, "most(0) without STATIONS", () -> none.most(0));
    refused(none, STATE, "most(1) without STATIONS", () -> none.most(1));
  }

  static void bests() {
    AirTalkers x = airOf("p011 p011");
    long digest = x.digest();
    told(x, "best(0)", x.best(0), 1, 4);
    told(x, "best(1)", x.best(1), 1, 4);
    due("digest()", x.digest(), digest);
    AirTalkers alone = airOf("p912 p010");
    told(alone, "best(0): the least number", alone.best(0), 0, 2);
    AirTalkers edge = airOf("d095o415y296y293");
    told(edge, "best(0) in 200", edge.best(0), 3, 200);
    told(edge, "best(1) in 200", edge.best(1), 8, 200);
    AirTalkers never = airOf("s011 s011 p010");
    refused(never, NONE, "best(2)", () -> never.best(2));
    refused(x, BAD, "best(2)", () -> x.best(2));
    refused(x, BAD, "best(-1)", () -> x.best(-1));
    AirTalkers none = new AirTalkers();
    refused(none, BAD, "best(0) without STATIONS", () -> none.best(0));
  }

  static void silences() {
    AirTalkers x = airOf("s011 s012");
    told(x, "silence(1): the least number", x.silence(1), 1, 1);
    told(x, "silence(2)", x.silence(2), 1, 2);
    told(x, "silence(40)", x.silence(40), 1, 2);
    AirTalkers y = airOf("s012 s011");
    told(y, "silence(2)", y.silence(2), 2, 2);
    AirTalkers z = airOf("s012 s012 s014 s010");
    told(z, "silence(3)", z.silence(3), 3, 3);
    AirTalkers all = airOf("p012 p010");
    told(all, "silence(9): the fewest", all.silence(9), 0, 2);
    refused(x, BAD, "silence(0)", () -> x.silence(0));
    refused(x, BAD, "silence(41)", () -> x.silence(41));
    AirTalkers none = new AirTalkers();
    refused(none, BAD, "silence(0) without STATIONS", () -> none.silence(0));
    refused(none, STATE, "silence(1) without STATIONS", () -> none.silence(1));
  }

  interface Watch { int answer(AirTalkers x, int i, int r); }

  static void watchRefused(Watch watch) {
    AirTalkers x = airOf("p011 p011");
    x.row(0, 0);
    x.row(1, 20);
    due("a ROW of 20", watch.answer(x, 0, 1) == FINDING ? 1 : 0, 0);
    x.row(1, 21);
    lay(x, 2, 2, 8);
    lay(x, 3, -1);
    lay(x, 4, 7);
    refused(x, BAD, "no such STATION", () -> watch.answer(x, 2, 4));
    refused(x, BAD, "no such STATION", () -> watch.answer(x, -1, 5));
    refused(x, BAD, "no such ROW", () -> watch.answer(x, 0, 6));
    refused(x, BAD, "no such ROW", () -> watch.answer(x, 0, -1));
    found(x, 1, "a ROW that is missing", () -> watch.answer(x, 0, 5));
    found(x, 5, "a ROW of none", () -> watch.answer(x, 0, 0));
    found(x, 5, "a ROW of 21", () -> watch.answer(x, 0, 1));
    found(x, 3, "8 talked", () -> watch.answer(x, 0, 2));
    found(x, 3, "-1 talked", () -> watch.answer(x, 0, 3));
    due("7 of two talked", watch.answer(x, 0, 4) == FINDING ? 1 : 0, 0);
    x.lay(1, 0, 99);
    found(x, 5, "a ROW of 21, with a number that is none", () -> watch.answer(x, 0, 1));
    AirTalkers none = new AirTalkers();
    refused(none, BAD, "without STATIONS", () -> watch.answer(none, 0, 0));
  }

  static void whichKinds() {
    AirTalkers x = airOf("p011 p011");
    lay(x, 0, 2);
    due("kinds by 2", x.kinds(1, 0), 63);
    lay(x, 0, 2, 0);
    due("kinds by 2, 0", x.kinds(1, 0), 39);
    lay(x, 0, 2, 1);
    due("kinds by 2, 1", x.kinds(1, 0), 24);
    lay(x, 0, 2, 0, 2, 0, 0, 2, 0, 0, 0, 1);
    due("kinds: DOUBLE alone", x.kinds(1, 0), 2);
    lay(x, 0, 2, 0, 2, 0, 0, 2, 0, 0, 0, 2, 0, 0, 0, 0, 1);
    due("kinds: SHY alone", x.kinds(1, 0), 32);
    lay(x, 0, 1);
    due("kinds: none", x.kinds(1, 0), 0);
    due("KIND still", of(x, 1, 0), 0);
    watchRefused((y, i, r) -> y.kinds(i, r));
  }

  static void whichFirsts() {
    AirTalkers x = airOf("p011 p011");
    lay(x, 0, 2);
    due("firsts by 2", x.firsts(1, 0), 1023);
    lay(x, 0, 2, 0, 2);
    due("firsts by 2, 0, 2", x.firsts(1, 0), 1);
    lay(x, 0, 2, 0, 1);
    due("firsts by 2, 0, 1", x.firsts(1, 0), 1022);
    lay(x, 0, 2, 0, 1, 1);
    due("firsts by 2, 0, 1, 1", x.firsts(1, 0), 2);
    lay(x, 0, 0);
    due("firsts by 0", x.firsts(1, 0), 0);
    due("FIRST still", of(x, 1, 1), 0);
    watchRefused((y, i, r) -> y.firsts(i, r));
  }

  static void tests() {
    AirTalkers x = airOf("p011 p011");
    lay(x, 0, 2);
    told(x, "test by 2", x.test(1, 0), 10, 3);
    lay(x, 0, 2, 0, 2, 0, 0, 2, 0, 0, 0, 1);
    told(x, "test of one KIND", x.test(1, 0), 1, 1);
    AirTalkers plain = airOf("s019 p013");
    lay(plain, 0, 2, 1, 2, 1, 1, 2, 1, 1, 1, 2);
    due("kinds: PLAIN alone", plain.kinds(1, 0), 1);
    told(plain, "test of PLAIN alone", plain.test(1, 0), 1, 1);
    lay(x, 0, 7);
    refused(x, NONE, "test of no KIND", () -> x.test(1, 0));
    watchRefused((y, i, r) -> y.test(i, r));
  }

  static void duels() {
    AirTalkers x = airOf("p010 p010");
    long digest = x.digest();
    due("duel(0)", x.duel(0), 0);
    due("duel(1)", x.duel(1), 1);
    due("duel(2)", x.duel(2), 2);
    due("duel(3)", x.duel(3), 201);
    due("digest()", x.digest(), digest);
    AirTalkers y = slow(30, 30);
    due("duel(0)", y.duel(0), 90);
    due("duel(1) beyond 30", y.duel(1), 92);
    due("duel(2) beyond 30", y.duel(2), 93);
    due("duel(3) beyond 30", y.duel(3), 95);
    refused(x, BAD, "duel(-1)", () -> x.duel(-1));
    refused(x, BAD, "duel(4)", () -> x.duel(4));
    AirTalkers none = new AirTalkers();
    refused(none, BAD, "duel(4) without STATIONS", () -> none.duel(4));
    refused(none, STATE, "duel(0) without STATIONS", () -> none.duel(0));
  }

  static void chanceRefused(Watch chance) {
    AirTalkers x = airOf("s011 s011");
    x.odds(1, 6);
    refused(x, BAD, "n -1", () -> chance.answer(x, -1, 0));
    refused(x, BAD, "n 41", () -> chance.answer(x, 41, 0));
    refused(x, BAD, "p -1", () -> chance.answer(x, 0, -1));
    refused(x, BAD, "p 13", () -> chance.answer(x, 0, 13));
    due("upper() still", x.upper(), 3);
    due("lower() still", x.lower(), 4);
    AirTalkers none = new AirTalkers();
    refused(none, BAD, "p 13 without STATIONS", () -> chance.answer(none, 0, 13));
    refused(none, STATE, "without STATIONS", () -> chance.answer(none, 0, 0));
  }

  static void allOdds() {
    AirTalkers x = airOf("s011 s011");
    ratio(x, "odds(0, 6)", x.odds(0, 6), 1, 4);
    ratio(x, "odds(1, 6)", x.odds(1, 6), 3, 4);
    ratio(x, "odds(40, 6)", x.odds(40, 6), 3, 4);
    ratio(x, "odds(1, 3)", x.odds(1, 3), 7, 16);
    ratio(x, "odds(1, 0)", x.odds(1, 0), 0, 1);
    ratio(x, "odds(0, 12)", x.odds(0, 12), 1, 1);
    AirTalkers seven = airOf("s011 s011 s011 s011 s011 s011 s011");
    ratio(seven, "odds(0, 1) of seven", seven.odds(0, 1), 1, 35831808);
    ratio(seven, "odds(1, 11) of seven", seven.odds(1, 11), 1771561, 1990656);
    chanceRefused((y, n, p) -> y.odds(n, p));
  }

  static void mids() {
    AirTalkers x = airOf("s011 s011");
    ratio(x, "mid(0, 6)", x.mid(0, 6), 0, 1);
    ratio(x, "mid(1, 6)", x.mid(1, 6), 1, 2);
    ratio(x, "mid(1, 4)", x.mid(1, 4), 4, 9);
    ratio(x, "mid(1, 0)", x.mid(1, 0), 0, 1);
    ratio(x, "mid(1, 12)", x.mid(1, 12), 0, 1);
    AirTalkers y = airBehind("p019 p010", 3);
    ratio(y, "mid(5, 0)", y.mid(5, 0), 5, 1);
    ratio(y, "mid(40, 8)", y.mid(40, 8), 2, 1);
    chanceRefused((z, n, p) -> z.mid(n, p));
  }

  /** By the seed 1: a SLOT, 0 DROPPED, two SLOTS, 0 gets one, a SLOT, 0 gets one, 1 gets one. */
  static void lot() {
    AirTalkers x = airOf("p012 p010");
    due("lots(1, 1)", x.lots(1, 1), 1);
    is(x, 0, 1, 0, 0);
    x.undo(0);
    due("lots(2, 1)", x.lots(2, 1), 1);
    is(x, 0, 0, 0, 0);
    x.undo(0);
    due("lots(5, 1)", x.lots(5, 1), 1);
    is(x, 0, 1, 0, 0);
    due("the SLOT", x.count(1), 3);
    due("DEEDS", x.count(2), 5);
    x.undo(0);
    due("lots(8, 1)", x.lots(8, 1), 2);
    is(x, 0, 1, 0, 0);
    is(x, 1, 1, 0, 0);
    due("undo(2)", x.undo(2), 6);
    is(x, 0, 0, 0, 0);
    refused(x, BAD, "lots(0, 1)", () -> x.lots(0, 1));
    refused(x, BAD, "lots(21, 1)", () -> x.lots(21, 1));
    refused(x, BAD, "lots(1, 0)", () -> x.lots(1, 0));
    refused(x, BAD, "lots(1, -1)", () -> x.lots(1, -1));
    refused(x, BAD, "lots(1, HIGH)", () -> x.lots(1, HIGH));
    due("lots(1, 2147483646)", x.lots(1, 2147483646) >= 0 ? 1 : 0, 1);
    x.undo(0);
    x.lots(20, 5);
    x.slot();
    refused(x, FULL, "lots(20, 5)", () -> x.lots(20, 5));
    due("lots(19, 5)", x.lots(19, 5) >= 0 ? 1 : 0, 1);
    refused(x, FULL, "lots(1, 5)", () -> x.lots(1, 5));
    AirTalkers none = new AirTalkers();
    refused(none, STATE, "lots(1, 1) without STATIONS", () -> none.lots(1, 1));
    refused(none, BAD, "lots(0, 1) without STATIONS", () -> none.lots(0, 1));
    lotsOfNothing();
  }

  /** The fifth number of the seed 1 gives 0 a LETTER: taken as a seed's first, it is that of 1914720637. */
  static void lotsOfNothing() {
    AirTalkers x = airOf("p019 p010");
    x.give(0, 9);
    x.give(0, 9);
    x.give(0, 3);
    due("lots(1, 1914720637)", x.lots(1, 1914720637), 0);
    due("DEEDS", x.count(2), 4);
    is(x, 0, 30, 0, 0);
    AirTalkers y = airOf("p010 p010");
    due("a queue of none DROPPED", y.lots(1, 48271), 0);
    due("DEEDS", y.count(2), 1);
    due("the SLOT", y.count(1), 0);
  }

  static void askeds() {
    AirTalkers x = new AirTalkers();
    due("asked() before", x.asked(), 0);
    lay(x, 0, 5, 7);
    told(x, "at(0, 1)", x.at(0, 1), 1, 7);
    x.row(1, 3);
    x.copy(0, 0, 1, 0, 2);
    x.findings(1);
    x.count(3);
    due("asked() behind calls that tell nothing", x.asked(), 7);
    write(x, 0, "p011 p011");
    x.air(0);
    x.ends();
    due("asked() behind NONE", x.asked(), 7);
    x.duel(1);
    x.odds(3, 3);
    x.mid(3, 3);
    lay(x, 0, 2);
    int asked = x.asked();
    x.kinds(0, 0);
    x.firsts(0, 0);
    x.mark(0, 0);
    x.slot();
    x.lots(3, 3);
    x.digest();
    due("asked() behind others", x.asked(), asked);
  }

  static void ratios(boolean up) {
    AirTalkers x = new AirTalkers();
    due("before", up ? x.upper() : x.lower(), up ? 0 : 1);
    AirTalkers y = airOf("s011 s011");
    y.odds(1, 3);
    y.mid(41, 3);
    y.ends();
    due("behind odds(1, 3)", up ? y.upper() : y.lower(), up ? 7 : 16);
    y.mid(1, 4);
    due("behind mid(1, 4)", up ? y.upper() : y.lower(), up ? 4 : 9);
    y.odds(1, 0);
    due("behind odds(1, 0)", up ? y.upper() : y.lower(), up ? 0 : 1);
  }

  static void counts() {
    AirTalkers x = airOf("y011 y011 l010 d010 o010 s010 p010");
    for (int n = 0; n < 10; n++) x.slot();
    x.give(6, 3);
    x.slot();
    x.keep(2);
    x.row(0, 1);
    x.row(5, 0);
    x.text(3, 0);
    int[] counts = {7, 11, 12, 2, 1, 2, 1, 2, 2, 1, 2, 3};
    for (int what = 0; what < 12; what++) due("count(" + what + ")", x.count(what), counts[what]);
    refused(x, BAD, "count(12)", () -> x.count(12));
    refused(x, BAD, "count(-1)", () -> x.count(-1));
    AirTalkers y = airBehind("p011 p010", 2);
    due("count(6) behind a SLOT in which nobody talked", y.count(6), 0);
  }

  static void finding() {
    AirTalkers x = new AirTalkers();
    due("finding() before", x.finding(), 0);
    x.at(0, 0);
    due("finding()", x.finding(), 1);
    x.row(0, 0);
    x.at(0, 0);
    due("finding()", x.finding(), 2);
    x.row(9, 0);
    x.slot();
    due("finding() behind other refusals", x.finding(), 2);
    x.mean(0);
    due("finding()", x.finding(), 4);
    x.text(0, -1);
    due("finding()", x.finding(), 5);
    AirTalkers y = airOf("p010 p010");
    y.mark(0, 3);
    due("finding()", y.finding(), 3);
  }

  static void allFindings() {
    AirTalkers x = airOf("p010 p010");
    for (int f = 1; f <= 5; f++) due("findings(" + f + ") before", x.findings(f), 0);
    for (int n = 0; n < 1; n++) x.tear(0);
    x.row(0, 0);
    for (int n = 0; n < 2; n++) x.lay(0, 0, 0);
    for (int n = 0; n < 3; n++) x.mark(1, 5);
    for (int n = 0; n < 4; n++) x.mean(0);
    for (int n = 0; n < 5; n++) x.row(0, -9);
    for (int f = 1; f <= 5; f++) due("findings(" + f + ")", x.findings(f), f);
    refused(x, BAD, "findings(0)", () -> x.findings(0));
    refused(x, BAD, "findings(6)", () -> x.findings(6));
    refused(x, BAD, "findings(-1)", () -> x.findings(-1));
  }

  static long mix(long h, int... all) {
    for (int v : all) h = 31 * h + v;
    return h;
  }

  static void digests() {
    AirTalkers none = new AirTalkers();
    long h = mix(17, 0, 0, 0, 0, 0, 0, 0, 0, 0, 0, 0, 0);
    due("digest() before", none.digest(), mix(h, -1, -1, -1, -1, -1, -1, -1, -1, -1, -1, -1, -1, -1));
    AirTalkers x = airBehind("d112 y010", 1);
    x.keep(1);
    x.give(1, 2);
    lay(x, 0, 7, -8);
    x.row(4, 0);
    x.text(3, 1);
    x.put(3, 0, 255);
    h = mix(17, 2, 1, 2, 3, 1, 0, 1, 2, 2, 1, 1, 1);
    h = mix(h, 1, 1, 1, 1, 0, 0, 1, 5, 0, 1, 2, 0, 0, 0);
    h = mix(h, -1, 1, -1);
    h = mix(h, 2, 7, -8, -1, -1, -1, 0, -1);
    h = mix(h, 9, 'd', '1', '1', '2', ' ', 'y', '0', '1', '0', -1, -1, 1, -1);
    int asked = x.asked();
    due("digest()", x.digest(), h);
    due("asked() behind digest()", x.asked(), asked);
  }

  public static void main(String[] args) {
    Runnable[] promises = {AirTalkersPromisesTest::newObject, AirTalkersPromisesTest::rows, AirTalkersPromisesTest::lays,
      AirTalkersPromisesTest::ats, AirTalkersPromisesTest::tears, AirTalkersPromisesTest::copies, AirTalkersPromisesTest::means,
      AirTalkersPromisesTest::texts, AirTalkersPromisesTest::puts, AirTalkersPromisesTest::faults, AirTalkersPromisesTest::airs,
      AirTalkersPromisesTest::stations, AirTalkersPromisesTest::marks, AirTalkersPromisesTest::slots, AirTalkersPromisesTest::gives,
      AirTalkersPromisesTest::drops, AirTalkersPromisesTest::firstWaits, AirTalkersPromisesTest::undoes, AirTalkersPromisesTest::keeps,
      AirTalkersPromisesTest::goesOn, AirTalkersPromisesTest::whoTalks, AirTalkersPromisesTest::laters, AirTalkersPromisesTest::end,
      AirTalkersPromisesTest::clashes, AirTalkersPromisesTest::mostHeard, AirTalkersPromisesTest::bests, AirTalkersPromisesTest::silences,
      AirTalkersPromisesTest::whichKinds, AirTalkersPromisesTest::whichFirsts, AirTalkersPromisesTest::tests, AirTalkersPromisesTest::duels,
      AirTalkersPromisesTest::allOdds, AirTalkersPromisesTest::mids, AirTalkersPromisesTest::lot, AirTalkersPromisesTest::askeds,
      () -> ratios(true), () -> ratios(false), AirTalkersPromisesTest::counts, AirTalkersPromisesTest::finding,
      AirTalkersPromisesTest::allFindings, AirTalkersPromisesTest::digests};
    for (Runnable one : promises) {
      promise++;
      one.run();
    }
    System.out.println(wrong == 0 ? promise + " promises are kept" : wrong + " answers are not as due");
    if (wrong != 0 || promise != 41) System.exit(1);
  }
}
