import java.util.ArrayList;
import java.util.List;
import java.util.NoSuchElementException;
import java.util.Random;
import java.util.regex.Matcher;
import java.util.regex.Pattern;

/**
 * Random runs of calls, answered by the program and by a plain model of the document side by side.
 * The model is slow and goes through every case; it shares no code with the program.
 */
public final class ModelTest {
  static final int NONE = -1;
  private static int wrong = 0;

  public static void main(String[] args) {
    int runs = args.length > 0 ? Integer.parseInt(args[0]) : 1500;
    int first = args.length > 1 ? Integer.parseInt(args[1]) : 0;
    for (int seed = first; seed < first + runs && wrong < 5; seed++) {
      new Run(seed).go();
    }
    System.out.println(wrong == 0 ? "ModelTest: all answers are as due" : "ModelTest: " + wrong + " runs went wrong");
    if (wrong != 0) {
      System.exit(1);
    }
  }

  /** A run of calls on a new object and on a new model. */
  static final class Run {
    final int seed;
    final Random random;
    final DownTheGutter real = new DownTheGutter();
    final Model model = new Model();
    final List<String> calls = new ArrayList<>();
    boolean fine = true;

    Run(int seed) {
      this.seed = seed;
      random = new Random(seed * 7919L + 17);
    }

    void go() {
      int many = 40 + random.nextInt(80);
      tellTown();
      if (random.nextInt(4) > 0) {
        tellWater();
      }
      if (random.nextInt(4) > 0) {
        tellRule();
      }
      boolean isCrowd = random.nextInt(3) == 0;
      if (isCrowd) {
        gather();
      }
      for (int k = 0; k < many && fine; k++) {
        if (isCrowd && random.nextInt(2) == 0) {
          crowdCall();
        } else {
          anyCall();
        }
      }
      if (!fine) {
        wrong++;
        System.out.println("seed " + seed + ":");
        for (String call : calls) {
          System.out.println("  " + call);
        }
      }
    }

    int r(int n) {
      return random.nextInt(n);
    }

    // numbers that mostly may stand there
    int p() {
      int n = model.places.size();
      return n > 0 && r(12) > 0 ? r(n) : r(14) - 1;
    }

    int kitchen() {
      List<Integer> ks = new ArrayList<>();
      for (int i = 0; i < model.places.size(); i++) {
        if (model.places.get(i).kind == 'k') {
          ks.add(i);
        }
      }
      return !ks.isEmpty() && r(12) > 0 ? ks.get(r(ks.size())) : r(14) - 1;
    }

    int thing() {
      int n = model.st.things.size();
      return n > 0 && r(12) > 0 ? r(n) : r(8) - 1;
    }

    int boat() {
      int k = r(12);
      return k == 0 ? r(103) - 2 : k < 5 ? r(12) : k < 9 ? r(40) : r(100);
    }

    int coins() {
      return r(12) == 0 ? r(13) - 2 : r(10);
    }

    int wait_() {
      int k = r(12);
      return k == 0 ? r(103) - 2 : k < 6 ? 0 : k < 10 ? r(20) : r(100);
    }

    int ahead() {
      int k = r(12);
      return k == 0 ? r(306) - 2 : k == 1 ? 300 : k < 8 ? r(30) : r(301);
    }

    int corkMinute() {
      int k = r(12);
      return k == 0 ? r(1005) - 2 : k < 6 ? r(20) : r(1000);
    }

    /** THINGS that are in one another's way: THE RULE looks at n, and they come to few forks one by one. */
    void gather() {
      String[] rules = {"n", "n>1", "n=0", "n+p", "n*p", "(n=0)*p", "(n>0)*p+(m=1)", "n>m/3", "(n=1)*(i/2)", "n-1", "p-n", "n*w/2+p", "(b<9)*n", "n=c"};
      tell(rules[r(rules.length)]);
      same("rule()", real.rule(), model.rule());
      List<Integer> forks = new ArrayList<>();
      for (int i = 0; i < model.places.size(); i++) {
        if (model.isFork(i)) {
          forks.add(i);
        }
      }
      int many = 2 + r(5);
      for (int k = 0; k < many; k++) {
        int a = !forks.isEmpty() && r(3) > 0 ? forks.get(r(Math.min(2, forks.size()))) : p();
        int b = 3 + r(30);
        int c = r(10);
        int d = r(2) == 0 ? 0 : r(7);
        same("put(" + a + "," + b + "," + c + "," + d + ")", real.put(a, b, c, d), model.put(a, b, c, d));
      }
    }

    void crowdCall() {
      switch (r(9)) {
        case 0: {
          int a = r(1 << model.st.things.size());
          same("save(" + a + ")", real.save(a), model.save(a));
          break;
        }
        case 1: case 2: {
          int a = thing(); int e = kitchen();
          same("steer(" + a + "," + e + ")", real.steer(a, e), model.steer(a, e));
          break;
        }
        case 3: case 4: {
          int a = thing(); int b = thing();
          same("order(" + a + "," + b + ")", real.order(a, b), model.order(a, b));
          break;
        }
        case 5: {
          int a = thing(); int n = r(61); int q = r(11);
          same("odds(" + a + "," + n + "," + q + ")", real.odds(a, n, q), model.odds(a, n, q));
          break;
        }
        case 6: {
          int a = thing();
          same("comes(" + a + ")", real.comes(a), model.comes(a));
          break;
        }
        case 7: {
          same("run(1)", real.run(1), model.run(1));
          break;
        }
        default:
          same("undo()", real.undo(), model.undo());
      }
    }

    void anyCall() {
      switch (r(48)) {
        case 0:
          if (r(3) == 0) {
            tellTown();
          }
          break;
        case 1:
          tellWater();
          break;
        case 2:
          tellRule();
          break;
        case 3: case 4: case 5:
          tellDay();
          break;
        case 6: case 7: case 8: case 9: {
          int a = p(); int b = boat(); int c = coins(); int d = wait_();
          same("put(" + a + "," + b + "," + c + "," + d + ")", real.put(a, b, c, d), model.put(a, b, c, d));
          break;
        }
        case 10: {
          int a = thing(); int b = r(11);
          same("give(" + a + "," + b + ")", real.give(a, b), model.give(a, b));
          break;
        }
        case 11: case 12: case 13: {
          int a = r(15) == 0 ? r(105) - 2 : r(8);
          same("run(" + a + ")", real.run(a), model.run(a));
          break;
        }
        case 14: case 15:
          same("undo()", real.undo(), model.undo());
          break;
        case 16: case 17: {
          int a = thing(); int b = ahead();
          same("where(" + a + "," + b + ")", real.where(a, b), model.where(a, b));
          break;
        }
        case 18: {
          int a = thing();
          same("comes(" + a + ")", real.comes(a), model.comes(a));
          break;
        }
        case 19: {
          int a = ahead();
          same("lost(" + a + ")", real.lost(a), model.lost(a));
          break;
        }
        case 20: {
          int a = ahead();
          same("homes(" + a + ")", real.homes(a), model.homes(a));
          break;
        }
        case 21: case 22: {
          int a = p(); int b = boat(); int c = coins(); int d = wait_(); int e = kitchen();
          same("sail(" + a + "," + b + "," + c + "," + d + "," + e + ")", real.sail(a, b, c, d, e), model.sail(a, b, c, d, e));
          break;
        }
        case 23: {
          int b = boat(); int c = coins(); int e = kitchen();
          same("soonest(" + b + "," + c + "," + e + ")", real.soonest(b, c, e), model.soonest(b, c, e));
          break;
        }
        case 24: {
          int b = boat(); int c = coins(); int e = kitchen();
          same("basin(" + b + "," + c + "," + e + ")", real.basin(b, c, e), model.basin(b, c, e));
          break;
        }
        case 25: {
          int a = p(); int c = coins(); int e = kitchen();
          same("boat(" + a + "," + c + "," + e + ")", real.boat(a, c, e), model.boat(a, c, e));
          break;
        }
        case 26: {
          int a = p(); int b = boat(); int e = kitchen();
          same("coins(" + a + "," + b + "," + e + ")", real.coins(a, b, e), model.coins(a, b, e));
          break;
        }
        case 27: {
          int a = p(); int b = boat(); int c = coins(); int e = kitchen();
          same("waits(" + a + "," + b + "," + c + "," + e + ")", real.waits(a, b, c, e), model.waits(a, b, c, e));
          break;
        }
        case 28: case 29: {
          int a = p();
          same("round(" + a + ")", real.round(a), model.round(a));
          break;
        }
        case 30: case 31: {
          int n = model.st.things.size();
          int a = r(10) == 0 ? r(70) - 3 : r(1 << n);
          same("save(" + a + ")", real.save(a), model.save(a));
          break;
        }
        case 32: case 33: {
          int a = thing(); int e = kitchen();
          same("steer(" + a + "," + e + ")", real.steer(a, e), model.steer(a, e));
          break;
        }
        case 34: {
          int a = p(); int b = boat(); int c = coins(); int e = kitchen();
          same("ways(" + a + "," + b + "," + c + "," + e + ")", real.ways(a, b, c, e), model.ways(a, b, c, e));
          break;
        }
        case 35: case 36: {
          int a = p(); int b = boat(); int c = coins(); int e = kitchen(); int n = r(15) == 0 ? r(6) - 1 : r(4);
          same("duel(" + a + "," + b + "," + c + "," + e + "," + n + ")", real.duel(a, b, c, e, n), model.duel(a, b, c, e, n));
          break;
        }
        case 37: case 38: {
          int a = p(); int m = corkMinute(); int e = r(3) == 0 ? NONE : kitchen();
          same("cork(" + a + "," + m + "," + e + ")", real.cork(a, m, e), model.cork(a, m, e));
          break;
        }
        case 39:
          if (r(2) == 0) {
            same("forget()", real.forget(), model.forget());
          }
          break;
        case 40:
          same("maps()", real.maps(), model.maps());
          break;
        case 41: {
          int m = corkMinute();
          same("next(" + m + ")", real.next(m), model.next(m));
          break;
        }
        case 42: case 43: {
          int a = thing(); int n = r(15) == 0 ? r(65) - 2 : r(61); int q = r(15) == 0 ? r(14) - 2 : r(11);
          same("odds(" + a + "," + n + "," + q + ")", real.odds(a, n, q), model.odds(a, n, q));
          break;
        }
        case 44: {
          int b = boat(); int c = coins(); int s = model.someTrail(random);
          same("marks(" + b + "," + c + "," + s + ")", real.marks(b, c, s), model.marks(b, c, s));
          break;
        }
        case 45: {
          int a = thing(); int b = thing();
          same("order(" + a + "," + b + ")", real.order(a, b), model.order(a, b));
          break;
        }
        case 46: {
          int a = r(5) - 1;
          if (r(3) > 0) {
            same("keep(" + a + ")", real.keep(a) ? 1 : 0, model.keep(a) ? 1 : 0);
          } else {
            same("again(" + a + ")", real.again(a) ? 1 : 0, model.again(a) ? 1 : 0);
          }
          break;
        }
        default:
          smallCall();
      }
    }

    void smallCall() {
      switch (r(4)) {
        case 0: {
          int a = p(); int v = r(10) == 0 ? r(4) - 1 : r(2);
          same("plank(" + a + "," + v + ")", real.plank(a, v) ? 1 : 0, model.plank(a, v) ? 1 : 0);
          break;
        }
        case 1: {
          int kind = r(10) == 0 ? r(7) - 2 : r(4); int n = r(9) - 1; int f = r(3) == 0 ? random.nextInt() : r(300) - 50;
          int step = r(3) == 0 ? random.nextInt() : r(60) - 20;
          same("sheet(" + kind + "," + n + "," + f + "," + step + ")", real.sheet(kind, n, f, step), model.sheet(kind, n, f, step));
          break;
        }
        case 2: {
          int m = r(5) == 0 ? r(10010) - 4 : r(500);
          same("flow(" + m + ")", real.flow(m), model.flow(m));
          break;
        }
        default: {
          int v = random.nextInt();
          same("sign(" + v + ")", real.sign(v), model.sign(v));
          int n = r(6) - 1;
          same("end(" + n + ")", real.end(n) ? 1 : 0, model.end(n) ? 1 : 0);
        }
      }
    }

    void tell(String text) {
      same("end(0)", real.end(0) ? 1 : 0, model.end(0) ? 1 : 0);
      for (int at = 0; at < text.length(); at += 4) {
        int v = 0;
        for (int k = 0; k < 4; k++) {
          v = v << 8 | (at + k < text.length() ? text.charAt(at + k) : 0);
        }
        same("sign(" + v + ")", real.sign(v), model.sign(v));
      }
      int n = Math.min(80, text.length());
      same("end(" + n + ") // " + text, real.end(n) ? 1 : 0, model.end(n) ? 1 : 0);
    }

    /** A text that is spoilt now and then: a sign is other, missing or twice there, or the end is. */
    String spoil(String text, String signs) {
      if (r(6) > 0) {
        return text;
      }
      StringBuilder b = new StringBuilder(text);
      int many = 1 + r(2);
      for (int k = 0; k < many; k++) {
        int at = b.length() == 0 ? 0 : r(b.length());
        char c = r(8) == 0 ? (char) r(256) : signs.charAt(r(signs.length()));
        switch (r(4)) {
          case 0:
            b.insert(at, c);
            break;
          case 1:
            if (b.length() > 0) {
              b.deleteCharAt(at);
            }
            break;
          case 2:
            if (b.length() > 0) {
              b.setCharAt(at, c);
            }
            break;
          default:
            b.setLength(at);
        }
      }
      return b.toString();
    }

    void tellTown() {
      int n = r(20) == 0 ? r(15) : 2 + r(8);
      StringBuilder b = new StringBuilder();
      int forks = 0;
      for (int i = 0; i < n; i++) {
        if (i > 0) {
          b.append(';');
        }
        char kind = i == n - 1 && r(8) > 0 ? 'k' : "ggddddfrmikk".charAt(r(12));
        if (kind == 'd' && ++forks > 5) {
          kind = 'g';
        }
        b.append(kind);
        if (kind == 'k') {
          continue;
        }
        b.append(letter(n, i));
        if (kind == 'd') {
          b.append(letter(n, i));
        } else if (kind == 'f' || kind == 'r') {
          b.append((char) ('1' + r(r(2) == 0 ? 3 : 9)));
        } else if (kind == 'i') {
          b.append((char) ('2' + r(8)));
        } else if (kind == 'm') {
          int from = r(10);
          b.append((char) ('0' + from)).append((char) ('0' + from + r(r(2) == 0 ? 1 : 10 - from)));
        }
      }
      tell(spoil(b.toString(), "gdfrmikabcl;0123456789"));
      same("town()", real.town(), model.town());
    }

    char letter(int n, int i) {
      int to = r(3) > 0 && i + 1 < n ? i + 1 + r(n - i - 1) : r(n);
      return (char) ('a' + (r(60) == 0 ? to + 1 : to));
    }

    void tellWater() {
      int n = r(15) == 0 ? 38 + r(5) : r(6);
      StringBuilder b = new StringBuilder();
      for (int i = 0; i < n; i++) {
        b.append((char) ('0' + (r(3) == 0 ? r(4) : 1 + r(2))));
      }
      tell(spoil(b.toString(), "0123 4"));
      same("water()", real.water(), model.water());
    }

    void tellRule() {
      String text;
      switch (r(6)) {
        case 0:
          text = "";
          break;
        case 1:
          text = "p";
          break;
        default:
          text = expression(3, 0);
          if (text.length() > 40 && r(8) > 0) {
            text = expression(1, 3);
          }
      }
      tell(spoil(text, "()+-*/<>=pmwibcnf0123456789"));
      same("rule()", real.rule(), model.rule());
    }

    String expression(int size, int depth) {
      String s = sum(size, depth);
      return r(2) == 0 ? s : s + "<>=".charAt(r(3)) + sum(size, depth);
    }

    String sum(int size, int depth) {
      StringBuilder b = new StringBuilder(thing(size, depth));
      int many = r(size + 1);
      for (int i = 0; i < many; i++) {
        b.append("+-*/".charAt(r(4))).append(thing(size, depth));
      }
      return b.toString();
    }

    String thing(int size, int depth) {
      String minus = r(6) == 0 ? "--".substring(r(2)) : "";
      int k = r(10);
      if (k < 6) {
        return minus + "ppmwibcnf".charAt(r(9));
      }
      if (k < 9 || depth > (r(10) == 0 ? 5 : 3)) {
        return minus + r(r(2) == 0 ? 10 : 1000);
      }
      return minus + "(" + expression(Math.max(0, size - 1), depth + 1) + ")";
    }

    void tellDay() {
      int n = r(15) == 0 ? r(25) : r(6);
      StringBuilder b = new StringBuilder();
      for (int i = 0; i < n; i++) {
        if (i > 0) {
          b.append(';');
        }
        int ps = Math.max(1, model.places.size());
        switch (r(4)) {
          case 0:
            b.append('t').append((char) ('a' + r(r(10) == 0 ? 12 : ps))).append(r(100));
            if (r(2) == 0) {
              b.append('+').append(r(10));
            }
            break;
          case 1:
            b.append('p').append((char) ('a' + r(ps)));
            break;
          case 2:
            b.append('n').append(r(10) == 0 ? r(100) : r(8));
            break;
          default:
            b.append('c').append(r(Math.max(1, model.st.things.size() + r(2)))).append(1 + r(9));
        }
      }
      tell(spoil(b.toString(), "tpnc;+abl0123456789"));
      same("day()", real.day(), model.day());
    }

    void same(String call, long got, long due) {
      if (!fine) {
        return;
      }
      calls.add(call + " = " + due);
      if (got != due) {
        fault(call + " answered " + got + ", due is " + due);
        return;
      }
      for (int what = -1; what <= 12; what++) {
        if (real.count(what) != model.count(what)) {
          fault("behind " + call + " count(" + what + ") is " + real.count(what) + ", due is " + model.count(what));
        }
      }
      for (int i = -1; i < 4; i++) {
        if (rowOf(i) != (i >= 0 && i < model.row.length ? model.row[i] : Long.MIN_VALUE)) {
          fault("behind " + call + " row(" + i + ") is " + rowOf(i));
        }
      }
      for (int thing = -1; thing < 7; thing++) {
        for (int what = -1; what < 8; what++) {
          long g;
          try {
            g = real.of(thing, what);
          } catch (NoSuchElementException e) {
            g = Long.MIN_VALUE;
          }
          if (g != model.of(thing, what)) {
            fault("behind " + call + " of(" + thing + "," + what + ") is " + g + ", due is " + model.of(thing, what));
          }
        }
      }
      for (int place = -1; place < 13; place++) {
        for (int what = -1; what < 7; what++) {
          long g;
          try {
            g = real.place(place, what);
          } catch (NoSuchElementException e) {
            g = Long.MIN_VALUE;
          }
          if (g != model.place(place, what)) {
            fault("behind " + call + " place(" + place + "," + what + ") is " + g + ", due is " + model.place(place, what));
          }
        }
      }
    }

    long rowOf(int i) {
      try {
        return real.row(i);
      } catch (NoSuchElementException e) {
        return Long.MIN_VALUE;
      }
    }

    void fault(String what) {
      if (fine) {
        calls.add("WRONG: " + what);
      }
      fine = false;
    }
  }

  static final class Place {
    char kind;
    int next = NONE;
    int second = NONE;
    int figure;
  }

  static final class Thing {
    int place;
    int boat;
    int coins;
    int marks;
    int sets;
    int state;
    int ended = NONE;

    Thing copy() {
      Thing t = new Thing();
      t.place = place;
      t.boat = boat;
      t.coins = coins;
      t.marks = marks;
      t.sets = sets;
      t.state = state;
      t.ended = ended;
      return t;
    }
  }

  static final class State {
    List<Thing> things = new ArrayList<>();
    int planks;
    int now;

    State copy() {
      State s = new State();
      for (Thing t : things) {
        s.things.add(t.copy());
      }
      s.planks = planks;
      s.now = now;
      return s;
    }

    int bits(int state) {
      int b = 0;
      for (int i = 0; i < things.size(); i++) {
        if (things.get(i).state == state) {
          b |= 1 << i;
        }
      }
      return b;
    }
  }

  /** The document, as plainly as can be. */
  static final class Model {
    String text = "";
    List<Place> places = new ArrayList<>();
    String water = "";
    String rule = "p";
    State st = new State();
    List<State> undos = new ArrayList<>();
    State[] kept = new State[3];
    List<int[]> corks = new ArrayList<>();
    long[] row = new long[0];
    boolean endless;
    int stepsMade;
    int rainBits;
    int rainNow = -1;

    static final String LINE = "(g[a-l]|d[a-l][a-l]|[fr][a-l][1-9]|m[a-l](0[0-9]|1[1-9]|2[2-9]|3[3-9]|4[4-9]|5[5-9]|6[6-9]|7[7-9]|8[89]|99)|i[a-l][2-9]|k)";
    static final Pattern TOWN = Pattern.compile("(" + LINE + "(;" + LINE + "){0,11}(;\uffff)?)?");
    static final Pattern WATER = Pattern.compile("[0-3]*");
    static final String ACT = "(t[a-l][0-9][0-9]?(\\+[0-9])?|p[a-l]|n[0-9][0-9]?|c[0-9][1-9])";
    static final Pattern DAY = Pattern.compile("(" + ACT + "(;" + ACT + ")*)?");
    static final Pattern RULE = Pattern.compile("(" + expressionPattern(4) + ")?");

    static String expressionPattern(int depth) {
      String thing = "-*+([0-9]{1,3}+|[pmwibcnf]" + (depth > 0 ? "|\\(" + expressionPattern(depth - 1) + "\\)" : "") + ")";
      String sum = thing + "([+*/-]" + thing + ")*+";
      return "(" + sum + "([<>=]" + sum + ")?+)";
    }

    /** 0 if a text of at most so many signs is told rightly, else -1 - p. */
    static int judge(Pattern pattern, String t, int most) {
      if (t.length() <= most && pattern.matcher(t).matches()) {
        return 0;
      }
      int p = 0;
      while (p < Math.min(t.length(), most)) {
        Matcher m = pattern.matcher(t.substring(0, p + 1));
        if (!m.matches() && !m.hitEnd()) {
          break;
        }
        p++;
      }
      return -1 - p;
    }

    int sign(int v) {
      if (text.length() + 4 > 80) {
        return NONE;
      }
      text += "" + (char) (v >>> 24 & 255) + (char) (v >>> 16 & 255) + (char) (v >>> 8 & 255) + (char) (v & 255);
      return text.length();
    }

    boolean end(int n) {
      if (n < 0 || n > text.length()) {
        return false;
      }
      text = text.substring(0, n);
      return true;
    }

    String take() {
      String t = text;
      text = "";
      return t;
    }

    int town() {
      String t = take();
      int told = judge(TOWN, t, 76);
      if (told != 0) {
        return told;
      }
      List<Place> made = new ArrayList<>();
      String[] lines = t.isEmpty() ? new String[0] : t.split(";");
      int at = 0;
      for (String line : lines) {
        Place p = new Place();
        p.kind = line.charAt(0);
        for (int k = 1; k < line.length(); k++) {
          char c = line.charAt(k);
          if (c >= 'a' && c <= 'l') {
            if (c - 'a' >= lines.length) {
              return -1 - (at + k);
            }
            if (k == 1) {
              p.next = c - 'a';
            } else {
              p.second = c - 'a';
            }
          } else {
            p.figure = p.figure * 10 + c - '0';
          }
        }
        at += line.length() + 1;
        made.add(p);
      }
      places = made;
      st = new State();
      undos.clear();
      kept = new State[3];
      corks.clear();
      return made.size();
    }

    int water() {
      String t = take();
      int told = judge(WATER, t, 40);
      if (told != 0) {
        return told;
      }
      water = t;
      return t.length();
    }

    int rule() {
      String t = take();
      int told = judge(RULE, t, 40);
      if (told == 0) {
        rule = t.isEmpty() ? "p" : t;
      }
      return told;
    }

    long place(int p, int what) {
      if (p < 0 || p >= places.size() || what < 0 || what > 5) {
        return Long.MIN_VALUE;
      }
      Place q = places.get(p);
      int there = 0;
      for (int i = 0; i < st.things.size(); i++) {
        Thing t = st.things.get(i);
        if (t.place == p && t.state == 0) {
          there += 1 << i;
        }
      }
      return new int[] {"gdfrmik".indexOf(q.kind), q.next, q.second, st.planks >> p & 1, q.figure, there}[what];
    }

    long of(int thing, int what) {
      if (thing < 0 || thing >= st.things.size() || what < 0 || what > 6) {
        return Long.MIN_VALUE;
      }
      Thing t = st.things.get(thing);
      return new int[] {t.place, t.boat, t.coins, t.marks, t.state, Math.max(0, t.sets - st.now), t.ended}[what];
    }

    int flow(int minute) {
      return minute < 0 || minute > 9999 ? NONE : waterIn(minute);
    }

    int waterIn(int minute) {
      int hour = minute / 10;
      int w = water.isEmpty() ? 1 : water.charAt(hour % water.length()) - '0';
      if (rainNow >= 0 && hour * 10 >= rainNow) {
        int firstHour = rainNow % 10 == 0 ? rainNow / 10 : rainNow / 10 + 1;
        if ((rainBits >> (hour - firstHour) & 1) == 1 && w < 3) {
          w++;
        }
      }
      return w;
    }

    boolean isFork(int p) {
      return p >= 0 && p < places.size() && places.get(p).kind == 'd';
    }

    boolean isKitchen(int p) {
      return p >= 0 && p < places.size() && places.get(p).kind == 'k';
    }

    int forks() {
      int b = 0;
      for (int p = 0; p < places.size(); p++) {
        if (isFork(p)) {
          b |= 1 << p;
        }
      }
      return b;
    }

    void remember(State s) {
      undos.add(s.copy());
      if (undos.size() > 15) {
        undos.remove(0);
      }
    }

    boolean plank(int p, int v) {
      if (!isFork(p) || v != 0 && v != 1) {
        return false;
      }
      remember(st);
      st.planks = st.planks & ~(1 << p) | v << p;
      return true;
    }

    int sheet(int kind, int n, int f, int step) {
      if (kind < 0 || kind > 3 || n > 6) {
        return NONE;
      }
      if (kind == 3) {
        for (Thing t : st.things) {
          t.boat = 0;
        }
        return -3;
      }
      if (n < 0) {
        return -2;
      }
      int sum = 0;
      for (int i = 0; i < st.things.size(); i++) {
        int b = 0;
        if (i < n) {
          b = f + i * step;
          b = kind == 0 ? (int) (byte) b : kind == 1 ? (int) (short) b : b;
          b = b < 0 ? 0 : b > 99 ? 99 : b;
        }
        st.things.get(i).boat = b;
        sum += b;
      }
      return sum;
    }

    static boolean in(int v, int from, int to) {
      return v >= from && v <= to;
    }

    boolean load(int boat, int coins) {
      return in(boat, 0, 99) && in(coins, 0, 9);
    }

    boolean isPlace(int p) {
      return p >= 0 && p < places.size();
    }

    Thing made(int p, int boat, int coins, int sets, int now) {
      Thing t = new Thing();
      t.place = p;
      t.boat = boat;
      t.coins = coins;
      t.marks = 1 << p;
      t.sets = sets;
      if (isKitchen(p)) {
        t.state = 1;
        t.ended = now;
      }
      return t;
    }

    int put(int p, int boat, int coins, int w) {
      if (!isPlace(p) || !load(boat, coins) || !in(w, 0, 99)) {
        return NONE;
      }
      if (st.things.size() == 6) {
        return -2;
      }
      remember(st);
      st.things.add(made(p, boat, coins, st.now + w, st.now));
      return st.things.size() - 1;
    }

    int give(int thing, int n) {
      if (!in(thing, 0, st.things.size() - 1) || !in(n, 1, 9) || st.things.get(thing).state != 0) {
        return NONE;
      }
      remember(st);
      Thing t = st.things.get(thing);
      return t.coins = Math.min(9, t.coins + n);
    }

    // THE RULE
    String ruleText;
    int at;
    int[] facts;

    int value(int[] f) {
      ruleText = rule;
      at = 0;
      facts = f;
      return comparison();
    }

    char peek() {
      return at < ruleText.length() ? ruleText.charAt(at) : '$';
    }

    int comparison() {
      int a = sum();
      char c = peek();
      if (c == '<' || c == '>' || c == '=') {
        at++;
        int b = sum();
        return (c == '<' ? a < b : c == '>' ? a > b : a == b) ? 1 : 0;
      }
      return a;
    }

    int sum() {
      int a = product();
      while (peek() == '+' || peek() == '-') {
        char c = ruleText.charAt(at++);
        int b = product();
        a = c == '+' ? a + b : a - b;
      }
      return a;
    }

    int product() {
      int a = thing();
      while (peek() == '*' || peek() == '/') {
        char c = ruleText.charAt(at++);
        int b = thing();
        a = c == '*' ? a * b : b == 0 ? 0 : a / b;
      }
      return a;
    }

    int thing() {
      char c = peek();
      at++;
      if (c == '-') {
        return -thing();
      }
      if (c == '(') {
        int v = comparison();
        at++;
        return v;
      }
      if (Character.isDigit(c)) {
        int v = c - '0';
        while (Character.isDigit(peek())) {
          v = v * 10 + ruleText.charAt(at++) - '0';
        }
        return v;
      }
      return facts["pmwibcnf".indexOf(c)];
    }

    void minute(State s) {
      int w = waterIn(s.now);
      for (int i = 0; i < s.things.size(); i++) {
        Thing t = s.things.get(i);
        if (t.sets > s.now) {
          continue;
        }
        for (int k = 0; k < w && t.state == 0; k++) {
          if (!step(s, i, t, w)) {
            break;
          }
        }
      }
      s.now++;
    }

    boolean step(State s, int i, Thing t, int w) {
      Place p = places.get(t.place);
      int to = p.next;
      int less = 1;
      if (p.kind == 'i' && s.now % p.figure != 0) {
        return false;
      }
      if (p.kind == 'r') {
        if (t.coins < p.figure) {
          return false;
        }
        if (!endless) {
          t.coins -= p.figure;
        }
      }
      if (p.kind == 'm' && in(s.now % 10, p.figure / 10, p.figure % 10)) {
        t.state = 2;
        t.ended = s.now;
        return false;
      }
      if (p.kind == 'f') {
        less += p.figure;
      }
      if (p.kind == 'd') {
        int others = 0;
        for (Thing o : s.things) {
          if (o != t && o.place == t.place) {
            others++;
          }
        }
        int v = value(new int[] {s.planks >> t.place & 1, s.now, w, i, t.boat, t.coins, others, t.place});
        to = v != 0 ? p.second : p.next;
      }
      stepsMade++;
      t.place = to;
      t.marks |= 1 << to;
      if (!endless) {
        t.boat -= less;
      }
      if (t.boat < 0) {
        t.boat = 0;
        t.state = 2;
        t.ended = s.now;
      } else if (isKitchen(to)) {
        t.state = 1;
        t.ended = s.now;
      }
      return true;
    }

    int run(int n) {
      if (!in(n, 0, 99)) {
        return NONE;
      }
      if (n > 0) {
        remember(st);
      }
      int h = st.bits(1);
      int l = st.bits(2);
      for (int k = 0; k < n; k++) {
        minute(st);
      }
      row = new long[] {st.bits(1) - h, st.bits(2) - l};
      return Integer.bitCount(st.bits(1) - h);
    }

    int day() {
      String t = take();
      int told = judge(DAY, t, 60);
      if (told != 0) {
        return told;
      }
      State was = st.copy();
      List<State> undosWere = new ArrayList<>(undos);
      int done = 0;
      int homes = 0;
      int couldNot = 0;
      for (String act : t.isEmpty() ? new String[0] : t.split(";")) {
        boolean could;
        if (act.charAt(0) == 't') {
          String[] parts = act.substring(2).split("\\+");
          could = put(act.charAt(1) - 'a', Integer.parseInt(parts[0]), parts.length > 1 ? Integer.parseInt(parts[1]) : 0, 0) >= 0;
        } else if (act.charAt(0) == 'p') {
          int p = act.charAt(1) - 'a';
          could = plank(p, 1 - (st.planks >> p & 1));
        } else if (act.charAt(0) == 'n') {
          long[] oldRow = row;
          homes += run(Integer.parseInt(act.substring(1)));
          row = oldRow;
          could = true;
        } else {
          could = give(act.charAt(1) - '0', act.charAt(2) - '0') >= 0;
        }
        if (!could) {
          couldNot = 1;
          break;
        }
        done++;
      }
      undos = undosWere;
      if (done > 0) {
        remember(was);
      }
      row = new long[] {couldNot, homes};
      return done;
    }

    int undo() {
      if (undos.isEmpty()) {
        return NONE;
      }
      st = undos.remove(undos.size() - 1);
      return undos.size();
    }

    State later(State s, int n) {
      State c = s.copy();
      for (int k = 0; k < n; k++) {
        minute(c);
      }
      return c;
    }

    int where(int thing, int n) {
      if (!in(thing, 0, st.things.size() - 1) || !in(n, 0, 300)) {
        return NONE;
      }
      Thing t = later(st, n).things.get(thing);
      row = new long[] {t.state, t.boat, t.coins};
      return t.place;
    }

    int comes(int thing) {
      if (!in(thing, 0, st.things.size() - 1)) {
        return NONE;
      }
      State s = st.copy();
      for (int k = 0; k <= 300; k++) {
        Thing t = s.things.get(thing);
        if (t.state == 1) {
          row = new long[] {t.place, t.marks};
          return k;
        }
        if (t.state == 2) {
          row = new long[] {t.place};
          return -2;
        }
        if (k < 300) {
          minute(s);
        }
      }
      row = new long[] {s.things.get(thing).place};
      return -3;
    }

    int lost(int n) {
      if (!in(n, 0, 300)) {
        return NONE;
      }
      State s = st.copy();
      for (int k = 1; k <= n; k++) {
        minute(s);
        for (int i = 0; i < s.things.size(); i++) {
          if (s.things.get(i).state == 2 && st.things.get(i).state != 2) {
            row = new long[] {k, s.things.get(i).place};
            return i;
          }
        }
      }
      return -2;
    }

    int homes(int n) {
      if (!in(n, 0, 300)) {
        return NONE;
      }
      State s = later(st, n);
      row = new long[] {s.bits(2), s.bits(0)};
      return s.bits(1);
    }

    // one alone; what becomes of it: MINUTES, NONE if it is not HOME in 300
    Thing alone;

    int goes(int p, int boat, int coins, int w, int now, int planks) {
      State s = new State();
      s.now = now;
      s.planks = planks;
      s.things.add(made(p, boat, coins, now + w, now));
      alone = s.things.get(0);
      for (int k = 0; k <= 300; k++) {
        if (alone.state == 1) {
          return k;
        }
        if (alone.state == 2) {
          return NONE;
        }
        if (k < 300) {
          minute(s);
        }
      }
      return NONE;
    }

    int goesTo(int p, int boat, int coins, int w, int to) {
      int k = goes(p, boat, coins, w, st.now, st.planks);
      return k >= 0 && alone.place == to ? k : NONE;
    }

    int sail(int p, int boat, int coins, int w, int to) {
      if (!isPlace(p) || !load(boat, coins) || !in(w, 0, 99) || !isKitchen(to)) {
        return NONE;
      }
      int k = goesTo(p, boat, coins, w, to);
      return k < 0 ? -2 : k;
    }

    int soonest(int boat, int coins, int to) {
      if (!load(boat, coins) || !isKitchen(to)) {
        return NONE;
      }
      int best = 1000;
      for (int p = 0; p < places.size(); p++) {
        for (int w = 0; w <= 30; w++) {
          int k = p == to ? NONE : goesTo(p, boat, coins, w, to);
          if (k >= 0 && k < best) {
            best = k;
            row = new long[] {p, w};
          }
        }
      }
      return best == 1000 ? -2 : best;
    }

    int basin(int boat, int coins, int to) {
      if (!load(boat, coins) || !isKitchen(to)) {
        return NONE;
      }
      int there = 0;
      int some = 0;
      int gone = 0;
      for (int p = 0; p < places.size(); p++) {
        goes(p, boat, coins, 0, st.now, st.planks);
        there |= alone.state == 1 && alone.place == to ? 1 << p : 0;
        some |= alone.state == 1 ? 1 << p : 0;
        gone |= alone.state == 2 ? 1 << p : 0;
      }
      row = new long[] {some, gone};
      return there;
    }

    int boat(int p, int coins, int to) {
      if (!isPlace(p) || !in(coins, 0, 9) || !isKitchen(to)) {
        return NONE;
      }
      for (int b = 0; b < 100; b++) {
        int k = goesTo(p, b, coins, 0, to);
        if (k >= 0) {
          row = new long[] {k};
          return b;
        }
      }
      return -2;
    }

    int coins(int p, int boat, int to) {
      if (!isPlace(p) || !in(boat, 0, 99) || !isKitchen(to)) {
        return NONE;
      }
      for (int c = 0; c < 10; c++) {
        int k = goesTo(p, boat, c, 0, to);
        if (k >= 0) {
          row = new long[] {k};
          return c;
        }
      }
      return -2;
    }

    int waits(int p, int boat, int coins, int to) {
      if (!isPlace(p) || !load(boat, coins) || !isKitchen(to)) {
        return NONE;
      }
      int bits = 0;
      row = new long[] {NONE, NONE};
      for (int w = 0; w < 30; w++) {
        int k = goesTo(p, boat, coins, w, to);
        if (k >= 0) {
          bits |= 1 << w;
          int took = p == to ? 0 : k - w;
          if (row[0] < 0 || took < row[1]) {
            row = new long[] {w, took};
          }
        }
      }
      return bits;
    }

    int round(int p) {
      if (!isPlace(p)) {
        return NONE;
      }
      State s = new State();
      s.now = st.now;
      s.planks = st.planks;
      s.things.add(made(p, 99, 9, st.now, st.now));
      Thing t = s.things.get(0);
      endless = true;
      List<Integer> back = new ArrayList<>();
      stepsMade = 0;
      for (int k = 1; k <= 300; k++) {
        minute(s);
        if (t.state == 0 && t.place == p && stepsMade > 0) {
          back.add(k);
          stepsMade = 0;
        }
      }
      endless = false;
      if (back.isEmpty()) {
        return -2;
      }
      row = new long[] {back.size() > 1 ? back.get(1) - back.get(0) : NONE};
      return back.get(0);
    }

    /** MINUTES till all of them are HOME, NONE if not in 300. */
    int allHome(State s, int those) {
      for (int k = 0; k <= 300; k++) {
        if ((s.bits(1) & those) == those) {
          return k;
        }
        if ((s.bits(2) & those) != 0) {
          return NONE;
        }
        if (k < 300) {
          minute(s);
        }
      }
      return NONE;
    }

    int turns(int those, int thing, int to) {
      int forks = forks();
      int best = 99;
      for (int many = 0; many <= 12 && best == 99; many++) {
        for (int set = 0; set < 4096 && best == 99; set++) {
          if ((set & ~forks) != 0 || Integer.bitCount(set) != many) {
            continue;
          }
          State s = st.copy();
          s.planks ^= set;
          int k = allHome(s, those);
          if (k >= 0 && (to < 0 || s.things.get(thing).place == to)) {
            best = many;
            row = new long[] {set, k};
          }
        }
      }
      return best == 99 ? -2 : best;
    }

    int save(int those) {
      if (those < 0 || those >= 1 << st.things.size()) {
        return NONE;
      }
      return turns(those, 0, NONE);
    }

    int steer(int thing, int to) {
      if (!in(thing, 0, st.things.size() - 1) || !isKitchen(to)) {
        return NONE;
      }
      return turns(1 << thing, thing, to);
    }

    int ways(int p, int boat, int coins, int to) {
      if (!isPlace(p) || !load(boat, coins) || !isKitchen(to)) {
        return NONE;
      }
      int forks = forks();
      int many = 0;
      row = new long[] {NONE, NONE};
      for (int set = 0; set < 4096; set++) {
        if ((set & ~forks) == 0 && goes(p, boat, coins, 0, st.now, set) >= 0 && alone.place == to) {
          many++;
          row[0] = row[0] < 0 ? set : row[0];
          row[1] = set;
        }
      }
      return many;
    }

    int duel(int p, int boat, int coins, int to, int n) {
      if (!isPlace(p) || !load(boat, coins) || !isKitchen(to) || !in(n, 0, 3)) {
        return NONE;
      }
      int best = play(p, boat, coins, to, n, true, st.planks);
      row = new long[] {NONE};
      if (n > 0) {
        for (int f = -1; f < 12; f++) {
          if ((f < 0 || isFork(f)) && play(p, boat, coins, to, n - 1, false, f < 0 ? st.planks : st.planks ^ 1 << f) == best) {
            row[0] = f;
            break;
          }
        }
      }
      return best;
    }

    int play(int p, int boat, int coins, int to, int left, boolean first, int planks) {
      if (left == 0) {
        return goes(p, boat, coins, 0, st.now, planks) >= 0 && alone.place == to ? 1 : 0;
      }
      int best = first ? 0 : 1;
      for (int f = -1; f < 12; f++) {
        if (f < 0 || isFork(f)) {
          int v = play(p, boat, coins, to, left - 1, !first, f < 0 ? planks : planks ^ 1 << f);
          best = first ? Math.max(best, v) : Math.min(best, v);
        }
      }
      return best;
    }

    int cork(int p, int m, int to) {
      if (!isPlace(p) || !in(m, 0, 999) || to != NONE && !isKitchen(to) || corks.size() == 10) {
        return NONE;
      }
      corks.add(new int[] {p, m, to});
      return corks.size();
    }

    int forget() {
      int n = corks.size();
      corks.clear();
      return n;
    }

    int corkEnds(int p, int m, int set) {
      return goes(p, 99, 0, 0, m, set) >= 0 ? alone.place : NONE;
    }

    List<Integer> fitting() {
      List<Integer> sets = new ArrayList<>();
      int forks = forks();
      for (int set = 0; set < 4096; set++) {
        if ((set & ~forks) != 0) {
          continue;
        }
        boolean fits = true;
        for (int[] cork : corks) {
          fits = fits && corkEnds(cork[0], cork[1], set) == cork[2];
        }
        if (fits) {
          sets.add(set);
        }
      }
      return sets;
    }

    int maps() {
      List<Integer> sets = fitting();
      int ones = forks();
      int zeros = forks();
      for (int set : sets) {
        ones &= set;
        zeros &= ~set;
      }
      row = new long[] {sets.isEmpty() ? NONE : sets.get(0), ones, zeros};
      return sets.size();
    }

    int next(int m) {
      if (places.isEmpty() || !in(m, 0, 999)) {
        return NONE;
      }
      List<Integer> sets = fitting();
      if (sets.isEmpty()) {
        return -2;
      }
      int best = NONE;
      int fewest = 99999;
      for (int p = 0; p < places.size(); p++) {
        int[] tally = new int[13];
        int most = 0;
        for (int set : sets) {
          most = Math.max(most, ++tally[corkEnds(p, m, set) + 1]);
        }
        if (most < fewest) {
          fewest = most;
          best = p;
        }
      }
      row = new long[] {fewest};
      return best;
    }

    int odds(int thing, int n, int p) {
      if (!in(thing, 0, st.things.size() - 1) || !in(n, 0, 60) || !in(p, 0, 10)) {
        return NONE;
      }
      long upper = 0;
      long lower = 10000000;
      for (int rain = 0; rain < 128; rain++) {
        long weight = 1;
        for (int h = 0; h < 7; h++) {
          weight *= (rain >> h & 1) == 1 ? p : 10 - p;
        }
        rainNow = st.now;
        rainBits = rain;
        if (weight > 0 && later(st, n).things.get(thing).state == 1) {
          upper += weight;
        }
        rainNow = -1;
      }
      for (int d = 2; d <= 5; d += 3) {
        while (lower % d == 0 && upper % d == 0) {
          upper /= d;
          lower /= d;
        }
      }
      row = new long[] {upper, upper == 0 ? 1 : lower};
      if (upper == 0) {
        row = new long[] {0, 1};
      }
      return 0;
    }

    int someTrail(Random random) {
      if (places.isEmpty() || random.nextInt(10) == 0) {
        return random.nextInt(4100) - 2;
      }
      goes(random.nextInt(places.size()), 30, 5, random.nextInt(10), st.now, st.planks);
      return alone.marks;
    }

    int marks(int boat, int coins, int those) {
      if (!load(boat, coins) || !in(those, 0, 4095)) {
        return NONE;
      }
      int many = 0;
      int bits = 0;
      int leastPlace = NONE;
      int leastWait = NONE;
      for (int p = 0; p < places.size(); p++) {
        for (int w = 0; w < 10; w++) {
          if (goes(p, boat, coins, w, st.now, st.planks) >= 0 && alone.marks == those) {
            if (many == 0) {
              leastPlace = p;
              leastWait = w;
            }
            many++;
            bits |= 1 << p;
          }
        }
      }
      row = many == 0 ? new long[] {0} : new long[] {leastPlace, leastWait, bits};
      return many;
    }

    int order(int one, int other) {
      int n = st.things.size();
      if (!in(one, 0, n - 1) || !in(other, 0, n - 1) || one == other || st.things.get(one).state != 0 || st.things.get(other).state != 0) {
        return NONE;
      }
      int best = 99;
      int many = 0;
      int bestA = 0;
      int bestB = 0;
      for (int a = 0; a < 10; a++) {
        for (int b = 0; b < 10; b++) {
          State s = st.copy();
          s.things.get(one).sets = st.now + a;
          s.things.get(other).sets = st.now + b;
          if (allHome(s, 1 << one | 1 << other) < 0 || a + b > best) {
            continue;
          }
          if (a + b < best) {
            best = a + b;
            many = 0;
            bestA = a;
            bestB = b;
          }
          many++;
        }
      }
      if (best == 99) {
        return -2;
      }
      row = new long[] {bestA, bestB, many};
      return best;
    }

    boolean keep(int i) {
      if (!in(i, 0, 2)) {
        return false;
      }
      kept[i] = st.copy();
      return true;
    }

    boolean again(int i) {
      if (!in(i, 0, 2) || kept[i] == null) {
        return false;
      }
      st = kept[i].copy();
      undos.clear();
      return true;
    }

    int count(int what) {
      int[] all = {places.size(), st.things.size(), st.now, forks(), st.planks, st.bits(0), st.bits(1), st.bits(2),
        undos.size(), corks.size(), row.length, text.length()};
      return what < 0 || what >= all.length ? -100 : all[what];
    }
  }
}
