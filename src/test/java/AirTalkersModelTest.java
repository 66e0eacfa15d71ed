import java.math.BigInteger;
import java.util.ArrayList;
import java.util.Arrays;
import java.util.Comparator;
import java.util.List;
import java.util.Random;

/**
 * Plays random calls on AirTalkers and on a second reading of the document that is slow and plain
 * (whole states kept for undo, every turn of a duel tried, chances as fractions), and compares.
 */
public final class AirTalkersModelTest {
  static final int BAD = -1, FULL = -2, FINDING = -3, STATE = -4, SPENT = -6, NONE = -9;

  static final class One {
    char letter; int first, step, letters, wait, clashes; boolean silent;
    One(char letter, int first, int step, int letters) { this.letter = letter; this.first = first; this.step = step; this.letters = letters; }
    One twin() { One o = new One(letter, first, step, letters); o.wait = wait; o.clashes = clashes; o.silent = silent; return o; }
    int kind() { return "pdosly".indexOf(letter); }
    boolean is(int kind) {
      switch (kind) {
        case 0: return true;
        case 1: return letter == 'd' || letter == 'l';
        case 2: return letter == 'o' || letter == 'y';
        default: return kind() == kind;
      }
    }
    boolean wants(boolean before) {
      if (silent || letters == 0 || wait > 0) return false;
      return !(is(2) && before);
    }
    static int wait(char as, int first, int step, int c, int slot) {
      long doubled = Math.min(64, first + BigInteger.TWO.pow(c - 1).multiply(BigInteger.valueOf(step)).min(BigInteger.valueOf(1000)).longValue());
      switch (as) {
        case 's': return first;
        case 'd': return (int) doubled;
        case 'l': return (int) ((long) slot * step % (doubled + 1));
        default: return Math.min(64, first + c * step);
      }
    }
    int next(char as, int slot) { return wait(as, first, step, clashes + 1, slot); }
  }

  static final class World {
    List<One> ones = new ArrayList<>(); int slot, heard, lost; boolean before;
    World twin() {
      World w = new World(); w.slot = slot; w.heard = heard; w.lost = lost; w.before = before;
      for (One o : ones) w.ones.add(o.twin());
      return w;
    }
    List<Integer> talkers() {
      List<Integer> who = new ArrayList<>();
      for (int i = 0; i < ones.size(); i++) if (ones.get(i).wants(before)) who.add(i);
      return who;
    }
    List<Integer> step() {
      List<Integer> who = talkers();
      for (One o : ones) if (!o.silent && o.wait > 0) o.wait--;
      if (who.size() == 1) { One o = ones.get(who.get(0)); o.letters--; o.clashes = 0; heard++; }
      if (who.size() > 1) for (int i : who) {
        One o = ones.get(i);
        o.clashes++;
        if (o.letter == 'y' && o.clashes == 4) { o.letters--; lost++; o.clashes = 0; o.wait = 0; }
        else o.wait = One.wait(o.letter, o.first, o.step, o.clashes, slot);
      }
      before = !who.isEmpty();
      slot++;
      return who;
    }
    int left() { int sum = 0; for (One o : ones) if (!o.silent) sum += o.letters; return sum; }
    int end() { World w = twin(); for (int n = 0; n <= 200; n++) { if (w.left() == 0) return n; w.step(); } return NONE; }
    World behind(int n) { World w = twin(); for (int k = 0; k < n; k++) w.step(); return w; }
    World without(int bits) { World w = twin(); for (int i = 0; i < ones.size(); i++) if ((bits >> i & 1) == 1) w.ones.get(i).silent = true; return w; }
  }

  static int bits(List<Integer> who) { int b = 0; for (int i : who) b += 1 << i; return b; }

  static final class Model {
    int[][] rows = new int[6][]; byte[][] texts = new byte[4][];
    List<World> past = new ArrayList<>(List.of(new World()));
    List<List<World>> kept = new ArrayList<>(Arrays.asList(null, null, null));
    int asked, finding; long upper, lower = 1; int[] findings = new int[6];

    World now() { return past.get(past.size() - 1); }
    int size() { return now().ones.size(); }
    int done() { return past.size() - 1; }
    int find(int f) { finding = f; findings[f]++; return FINDING; }
    int tell(int v) { asked = v; return 1; }
    boolean in(int v, int from, int to) { return v >= from && v <= to; }

    int row(int r, int n) { if (!in(r, 0, 5) || n > 40) return BAD; if (n < 0) return find(5); rows[r] = new int[n]; return n; }
    int lay(int r, int i, int v) { int a = at(r, i); if (a == 1) rows[r][i] = v; return a; }
    int at(int r, int i) { if (!in(r, 0, 5)) return BAD; if (rows[r] == null) return find(1); if (!in(i, 0, rows[r].length - 1)) return find(2); return tell(rows[r][i]); }
    int tear(int r) { if (!in(r, 0, 5)) return BAD; if (rows[r] == null) return find(1); rows[r] = null; return 1; }
    int copy(int r, int i, int to, int j, int n) {
      if (!in(r, 0, 5) || !in(to, 0, 5)) return BAD;
      if (n < 0) return find(5);
      if (rows[r] == null || rows[to] == null) return find(1);
      if (i < 0 || j < 0 || (long) i + n > rows[r].length || (long) j + n > rows[to].length) return find(2);
      int[] taken = Arrays.copyOfRange(rows[r], i, i + n);
      for (int k = 0; k < n; k++) rows[to][j + k] = taken[k];
      return 1;
    }
    int mean(int r) {
      if (!in(r, 0, 5)) return BAD;
      if (rows[r] == null) return find(1);
      if (rows[r].length == 0) return find(4);
      BigInteger sum = BigInteger.ZERO;
      for (int v : rows[r]) sum = sum.add(BigInteger.valueOf(v));
      return tell(sum.divide(BigInteger.valueOf(rows[r].length)).intValueExact());
    }
    int text(int t, int n) { if (!in(t, 0, 3) || n > 60) return BAD; if (n < 0) return find(5); texts[t] = new byte[n]; Arrays.fill(texts[t], (byte) ' '); return n; }
    int put(int t, int i, int v) {
      if (!in(t, 0, 3)) return BAD;
      if (texts[t] == null) return find(1);
      if (!in(i, 0, texts[t].length - 1)) return find(2);
      int was = texts[t][i]; texts[t][i] = (byte) v; return 1000 + was;
    }
    /** An automaton over single signs, where the class reads whole items. */
    int parse(byte[] text, World into) {
      int state = 0;
      int[] item = new int[4];
      for (int i = 0; i < text.length; i++) {
        char c = (char) text[i];
        if (state == 0) {
          if (c == ' ') continue;
          if ("pdosly".indexOf(c) < 0 || into.ones.size() == 7) return i;
        } else if (c < (state == 2 ? '1' : '0') || c > '9') return i;
        item[state] = c - (state == 0 ? 0 : '0');
        state = (state + 1) % 4;
        if (state == 0) into.ones.add(new One((char) item[0], item[1], item[2], item[3]));
      }
      return state != 0 || into.ones.size() < 2 ? text.length : NONE;
    }
    int fault(int t) { if (!in(t, 0, 3)) return BAD; if (texts[t] == null) return find(1); return parse(texts[t], new World()); }
    int air(int t) {
      if (!in(t, 0, 3)) return BAD;
      if (texts[t] == null) return find(1);
      World w = new World();
      if (parse(texts[t], w) != NONE) return STATE;
      past = new ArrayList<>(List.of(w)); kept = new ArrayList<>(Arrays.asList(null, null, null));
      return w.ones.size();
    }
    int of(One o, int what) { return new int[] {o.kind(), o.first, o.step, o.letters, o.wait, o.clashes, o.wants(now().before) ? 1 : 0}[what]; }
    int station(int i, int what) { if (!in(i, 0, size() - 1) || !in(what, 0, 6)) return BAD; return tell(of(now().ones.get(i), what)); }
    int mark(int i, int kind) {
      if (!in(i, 0, size() - 1) || !in(kind, 1, 5)) return BAD;
      World w = now();
      One o = w.ones.get(i);
      if (!o.is(kind)) return find(3);
      int mine = o.next(o.letter, w.slot);
      switch (kind) {
        case 1: return mine - o.next('p', w.slot) + 100;
        case 2: return o.letters > 0 && o.wait == 0 && w.before ? 1 : 0;
        case 3: return o.next('p', w.slot) - mine;
        case 4: return o.next('d', w.slot) - mine;
        default: return 4 - o.clashes;
      }
    }
    World deed() { World w = now().twin(); past.add(w); return w; }
    int slot() { if (size() == 0 || now().slot == 199) return STATE; if (done() == 40) return FULL; return deed().step().size(); }
    int give(int i, int n) {
      if (!in(i, 0, size() - 1) || !in(n, 1, 9)) return BAD;
      if (now().ones.get(i).letters + n > 30) return SPENT;
      if (done() == 40) return FULL;
      return deed().ones.get(i).letters += n;
    }
    void clear(One o) { o.letters = 0; o.clashes = 0; o.wait = 0; }
    int drop(int i) {
      if (!in(i, 0, size() - 1)) return BAD;
      int had = now().ones.get(i).letters;
      if (had == 0) return STATE;
      if (done() == 40) return FULL;
      clear(deed().ones.get(i));
      return had;
    }
    int first(int i, int n) {
      if (!in(i, 0, size() - 1) || !in(n, 0, 9)) return BAD;
      int was = now().ones.get(i).first;
      if (was == n) return STATE;
      if (done() == 40) return FULL;
      deed().ones.get(i).first = n;
      return was;
    }
    int undo(int n) { if (!in(n, 0, done())) return BAD; int k = done() - n; past = new ArrayList<>(past.subList(0, n + 1)); return k; }
    int keep(int k) { if (!in(k, 0, 2)) return BAD; if (size() == 0) return STATE; kept.set(k, new ArrayList<>(past)); return done(); }
    int on(int k) { if (!in(k, 0, 2)) return BAD; if (kept.get(k) == null) return find(1); past = new ArrayList<>(kept.get(k)); return done(); }
    int talks() { List<Integer> who = now().talkers(); asked = who.size() == 1 ? 1 : 0; return bits(who); }
    int later(int i, int n) { if (!in(i, 0, size() - 1) || !in(n, 0, 100)) return BAD; World w = now().behind(n); asked = w.heard - now().heard; return w.ones.get(i).letters; }
    int ends() { if (size() == 0) return STATE; int e = now().end(); if (e != NONE) asked = now().behind(e).lost - now().lost; return e; }
    int clash() {
      if (size() == 0) return STATE;
      World w = now().twin();
      for (int n = 1; n <= 200; n++) { List<Integer> who = w.step(); if (who.size() > 1) { asked = bits(who); return n; } }
      return NONE;
    }
    int most(int n) {
      if (!in(n, 1, 100)) return BAD;
      if (size() == 0) return STATE;
      int[] often = new int[size()];
      World w = now().twin();
      for (int k = 0; k < n; k++) { List<Integer> who = w.step(); if (who.size() == 1) often[who.get(0)]++; }
      int max = Arrays.stream(often).max().getAsInt();
      if (max == 0) return NONE;
      asked = max;
      for (int i = 0; ; i++) if (often[i] == max) return i;
    }
    int best(int i) {
      if (!in(i, 0, size() - 1)) return BAD;
      List<int[]> ways = new ArrayList<>();
      for (int f = 0; f <= 9; f++) { World w = now().twin(); w.ones.get(i).first = f; int e = w.end(); if (e != NONE) ways.add(new int[] {e, f}); }
      if (ways.isEmpty()) return NONE;
      ways.sort(Comparator.<int[]>comparingInt(x -> x[0]).thenComparingInt(x -> x[1]));
      asked = ways.get(0)[0];
      return ways.get(0)[1];
    }
    int silence(int n) {
      if (!in(n, 1, 40)) return BAD;
      if (size() == 0) return STATE;
      List<int[]> ways = new ArrayList<>();
      for (int b = 0; b < 1 << size(); b++) ways.add(new int[] {-(now().without(b).behind(n).heard - now().heard), Integer.bitCount(b), b});
      ways.sort(Comparator.<int[]>comparingInt(x -> x[0]).thenComparingInt(x -> x[1]).thenComparingInt(x -> x[2]));
      asked = -ways.get(0)[0];
      return ways.get(0)[2];
    }
    int watch(int i, int r) {
      if (!in(i, 0, size() - 1) || !in(r, 0, 5)) return BAD;
      if (rows[r] == null) return find(1);
      if (!in(rows[r].length, 1, 20)) return find(5);
      for (int v : rows[r]) if (!in(v, 0, 7)) return find(3);
      return 0;
    }
    int[] talked(World w, int n) { World a = w.twin(); int[] t = new int[n]; for (int k = 0; k < n; k++) t[k] = a.step().size(); return t; }
    World as(int i, int kind) { World w = now().twin(); w.ones.get(i).letter = "pdosly".charAt(kind); return w; }
    int kinds(int i, int r) {
      int bad = watch(i, r);
      if (bad != 0) return bad;
      int fit = 0;
      for (int k = 0; k < 6; k++) if (Arrays.equals(talked(as(i, k), rows[r].length), rows[r])) fit += 1 << k;
      return fit;
    }
    int firsts(int i, int r) {
      int bad = watch(i, r);
      if (bad != 0) return bad;
      int fit = 0;
      for (int f = 0; f < 10; f++) { World w = now().twin(); w.ones.get(i).first = f; if (Arrays.equals(talked(w, rows[r].length), rows[r])) fit += 1 << f; }
      return fit;
    }
    int test(int i, int r) {
      int fit = kinds(i, r);
      if (fit < 0) return fit;
      if (fit == 0) return NONE;
      int best = 0, least = 99;
      for (int s = 1; s <= 20; s++) {
        int[] parts = new int[8];
        for (int k = 0; k < 6; k++) if ((fit >> k & 1) == 1) parts[talked(as(i, k), s)[s - 1]]++;
        int max = Arrays.stream(parts).max().getAsInt();
        if (max < least) { least = max; best = s; }
      }
      asked = least;
      return best;
    }
    int turn(World w, int left, boolean late) {
      if (left == 0) { int e = w.end(); return e == NONE ? 201 : e; }
      int[] all = new int[size()];
      for (int i = 0; i < size(); i++) { World a = w.twin(); a.ones.get(i).letters++; all[i] = turn(a, left - 1, !late); }
      return late ? Arrays.stream(all).max().getAsInt() : Arrays.stream(all).min().getAsInt();
    }
    int duel(int n) { if (!in(n, 0, 3)) return BAD; if (size() == 0) return STATE; return turn(now(), n, true); }
    int chance(int n, int p, boolean done) {
      if (!in(n, 0, 40) || !in(p, 0, 12)) return BAD;
      if (size() == 0) return STATE;
      BigInteger sum = BigInteger.ZERO, all = BigInteger.valueOf(12).pow(size());
      for (int b = 0; b < 1 << size(); b++) {
        World w = now().without(b).behind(n);
        int out = Integer.bitCount(b);
        BigInteger weight = BigInteger.valueOf(p).pow(out).multiply(BigInteger.valueOf(12 - p).pow(size() - out));
        sum = sum.add(weight.multiply(BigInteger.valueOf(done ? (w.left() == 0 ? 1 : 0) : w.heard - now().heard)));
      }
      BigInteger g = sum.gcd(all);
      upper = sum.divide(g).longValueExact(); lower = all.divide(g).longValueExact();
      return 1;
    }
    int odds(int n, int p) { return chance(n, p, true); }
    int mid(int n, int p) { return chance(n, p, false); }
    int lots(int n, int seed) {
      if (!in(n, 1, 20) || !in(seed, 1, 2147483646)) return BAD;
      if (size() == 0) return STATE;
      if (done() + n > 40) return FULL;
      BigInteger lot = BigInteger.valueOf(seed);
      for (int k = 0; k < n; k++) {
        lot = lot.multiply(BigInteger.valueOf(48271)).mod(BigInteger.valueOf(2147483647));
        World w = deed();
        One o = w.ones.get(lot.intValueExact() / 8 % size());
        int what = lot.intValueExact() % 8;
        if (what < 2) { if (o.letters < 30) o.letters++; }
        else if (what == 2) clear(o);
        else if (w.slot < 199) w.step();
      }
      return now().heard;
    }
    int count(int what) {
      if (!in(what, 0, 11)) return BAD;
      World w = now();
      int doubles = 0, polites = 0, rowsThere = 0, textsThere = 0, keptThere = 0;
      for (One o : w.ones) { if (o.is(1)) doubles++; if (o.is(2)) polites++; }
      for (int[] r : rows) if (r != null) rowsThere++;
      for (byte[] t : texts) if (t != null) textsThere++;
      for (List<World> k : kept) if (k != null) keptThere++;
      return new int[] {size(), w.slot, done(), w.left(), w.heard, w.lost, w.before ? 1 : 0, rowsThere, textsThere, keptThere, doubles, polites}[what];
    }
    int findings(int f) { return in(f, 1, 5) ? findings[f] : BAD; }
    long digest() {
      List<Integer> all = new ArrayList<>();
      for (int k = 0; k < 12; k++) all.add(count(k));
      for (One o : now().ones) for (int k = 0; k < 7; k++) all.add(of(o, k));
      for (List<World> k : kept) all.add(k == null ? -1 : k.size() - 1);
      for (int[] r : rows) { all.add(r == null ? -1 : r.length); if (r != null) for (int v : r) all.add(v); }
      for (byte[] t : texts) { all.add(t == null ? -1 : t.length); if (t != null) for (byte v : t) all.add((int) v); }
      long h = 17;
      for (int v : all) h = 31 * h + v;
      return h;
    }
  }

  static final String[] CALLS = {"row", "lay", "at", "tear", "copy", "mean", "text", "put", "fault", "air", "station", "mark",
    "slot", "give", "drop", "first", "undo", "keep", "on", "talks", "later", "ends", "clash", "most", "best", "silence",
    "kinds", "firsts", "test", "duel", "odds", "mid", "lots", "count", "findings"};
  static final int[] OFTEN = {3, 3, 1, 1, 3, 2, 1, 1, 1, 1, 3, 6, 30, 4, 2, 3, 3, 2, 2, 2, 3, 3, 2, 2, 1, 1, 3, 3, 3, 1, 1, 1, 5, 1, 1};

  final Random random;
  AirTalkers real;
  Model model;
  final List<String> calls = new ArrayList<>();
  AirTalkersModelTest(long seed) { random = new Random(seed); }

  int some(int from, int to) {
    int wild = random.nextInt(60);
    if (wild == 0) return new int[] {Integer.MIN_VALUE, Integer.MAX_VALUE, -1, to + 1, from - 1, -2, 1000}[random.nextInt(7)];
    return from + random.nextInt(to - from + 1);
  }

  /** The class and the model have the same calls by the same names. */
  static long call(Object x, String name, int[] a) {
    Class<?>[] ints = new Class<?>[a.length];
    Arrays.fill(ints, int.class);
    try {
      return ((Number) x.getClass().getDeclaredMethod(name, ints).invoke(x, Arrays.stream(a).boxed().toArray())).longValue();
    } catch (ReflectiveOperationException e) {
      throw new IllegalStateException(name + Arrays.toString(a), e);
    }
  }

  boolean both(String name, int... a) {
    String told = name + Arrays.toString(a);
    calls.add(told);
    long got = call(real, name, a), want = call(model, name, a);
    boolean same = got == want && real.asked() == model.asked && real.upper() == model.upper && real.lower() == model.lower
        && real.finding() == model.finding && real.digest() == model.digest();
    if (!same) {
      System.out.println(told + " answered " + got + " asked " + real.asked() + " ratio " + real.upper() + "/" + real.lower() + " finding " + real.finding()
          + ", due is " + want + " asked " + model.asked + " ratio " + model.upper + "/" + model.lower + " finding " + model.finding + " behind " + calls);
    }
    return same;
  }

  boolean air() {
    StringBuilder s = new StringBuilder();
    int n = random.nextInt(12) == 0 ? random.nextInt(10) : 2 + random.nextInt(6);
    int most = 1 + random.nextInt(9), longest = random.nextInt(10), far = 1 + random.nextInt(9);
    for (int i = 0; i < n; i++) {
      s.append("pdosly".charAt(random.nextInt(6))).append(random.nextInt(longest + 1)).append(1 + random.nextInt(far)).append(random.nextInt(most + 1));
      s.append(" ".repeat(random.nextInt(3)));
    }
    if (random.nextInt(8) == 0 && s.length() > 0) s.setCharAt(random.nextInt(s.length()), (char) random.nextInt(128));
    if (random.nextInt(8) == 0 && s.length() > 0) s.setLength(random.nextInt(s.length()));
    int t = random.nextInt(4);
    boolean same = both("text", t, Math.min(60, s.length()));
    for (int i = 0; i < s.length() && same; i++) same = both("put", t, i, s.charAt(i) + 256 * random.nextInt(2));
    return same && both("fault", t) && both("air", t);
  }

  /** A row of how many will truly talk, so that some kinds fit. */
  boolean watched(int r) {
    World w = model.now().twin();
    int n = some(0, 21);
    boolean same = both("row", r, n);
    for (int k = 0; k < n && k < 40 && same; k++) same = both("lay", r, k, random.nextInt(40) == 0 ? some(0, 7) : w.step().size());
    return same;
  }

  boolean any() {
    int pick = random.nextInt(Arrays.stream(OFTEN).sum()), c = 0;
    while (pick >= OFTEN[c]) pick -= OFTEN[c++];
    String name = CALLS[c];
    int i = some(0, Math.max(0, model.size() - 1)), r = some(0, 5);
    switch (name) {
      case "row": return both(name, r, some(0, 40));
      case "lay": return both(name, r, some(0, 10), random.nextBoolean() ? random.nextInt() : random.nextInt(8));
      case "at": return both(name, r, some(0, 10));
      case "tear": case "mean": return both(name, r);
      case "copy": return both(name, r, some(0, 12), some(0, 5), some(0, 12), some(0, 12));
      case "text": return both(name, some(0, 3), some(0, 60));
      case "put": return both(name, some(0, 3), some(0, 20), random.nextInt());
      case "fault": return both(name, some(0, 3));
      case "air": return random.nextInt(4) == 0 ? air() : both(name, some(0, 3));
      case "station": return both(name, i, some(0, 6));
      case "mark": return both(name, i, some(1, 5));
      case "give": return both(name, i, some(1, 9));
      case "drop": case "best": return both(name, i);
      case "first": return both(name, i, some(0, 9));
      case "undo": return both(name, some(0, Math.max(0, model.done())));
      case "keep": case "on": return both(name, some(0, 2));
      case "later": return both(name, i, some(0, 100));
      case "most": return both(name, some(1, 100));
      case "silence": return both(name, some(1, 40));
      case "kinds": case "firsts": case "test":
        int from = random.nextInt(6);
        return (random.nextInt(5) == 0 || watched(from)) && both(name, i, from);
      case "duel": return both(name, some(0, random.nextInt(4) == 0 ? 3 : 2));
      case "odds": case "mid": return both(name, some(0, 40), some(0, 12));
      case "lots": return both(name, some(1, 20), some(1, 2147483645));
      case "count": return both(name, some(0, 11));
      case "findings": return both(name, some(1, 5));
      default: return both(name);
    }
  }

  boolean run(int length) {
    real = new AirTalkers();
    model = new Model();
    calls.clear();
    boolean same = random.nextInt(10) == 0 || air();
    while (same && calls.size() < length) same = any();
    return same;
  }

  public static void main(String[] args) {
    int runs = args.length > 0 ? Integer.parseInt(args[0]) : 150;
    long seed = args.length > 1 ? Long.parseLong(args[1]) : 1;
    int wrong = 0;
    AirTalkersModelTest test = new AirTalkersModelTest(seed);
    for (int k = 0; k < runs && wrong < 3; k++) if (!test.run(250)) wrong++;
    System.out.println(wrong == 0 ? runs + " runs are as the model has them" : wrong + " runs are not");
    if (wrong != 0) System.exit(1);
  }
}
