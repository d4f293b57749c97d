import java.math.BigInteger;
import java.util.ArrayList;
import java.util.Arrays;
import java.util.LinkedList;
import java.util.List;
import java.util.NoSuchElementException;
import java.util.Set;
import java.util.TreeMap;
import java.util.TreeSet;

/**
 * The document once more, written for tests in another way: it keeps everything that ever happened and works
 * out each answer from that, without regard for room or speed.
 */
public final class PlainMill {
  private static final int NONE = -1;
  private static final int[] THIN = {100, 104, 102, 97, 90, 81, 70, 58};
  private static final Set<String> FIELDS = Set.of("fine", "ends", "basket", "lost", "made", "thin", "day");
  private static final Set<String> ACTS = Set.of("cast", "drop", "find", "throw", "cut", "stop");

  private static final class Worm {
    int lot, nr, seed, frail, length, base, stand, place, pot = NONE;
    int fine(int p) { return base * THIN[8 * p / length] / 100; }
    int now() { return place < length ? fine(place) : 0; }
    boolean breaks(int p) { return (next(seed + 131 * nr + 17 * p) >>> 16) % 1000 < frail; }
    int silk(int from, int to) { int s = 0; for (int p = from; p < to; p++) s += fine(p); return s; }
  }

  /** One end in one metre. */
  private record Drawn(int lot, int nr, int place, int fine) {}

  private record Condition(String field, char rel, int number) {}

  private record Rule(List<Condition> conditions, String act, int number) {}

  private record Token(String text, int at) {}

  private record Piece(int lot, int nr, int first, int many, int place) {}

  private record Fault(int skein, int amount, int day) {}

  private static final class Skein {
    int pot, day, target, grade = 3;
    boolean sold;
    List<List<Drawn>> metres;
    int fine(int m) { return metres.get(m).stream().mapToInt(Drawn::fine).sum(); }
    int weight() { int s = 0; for (int m = 0; m < metres.size(); m++) s += fine(m); return s; }
  }

  private static final class Pot {
    int target, find, stop, search, ticks, metresEver;
    LinkedList<Worm> basket = new LinkedList<>(), ends = new LinkedList<>(), lost = new LinkedList<>();
    List<List<Drawn>> grows = new ArrayList<>();
    List<Rule> rules = List.of();
    int fine() { return ends.stream().mapToInt(Worm::now).sum(); }
    int thin() { return ends.stream().mapToInt(Worm::now).min().orElse(0); }
  }

  private record Thing(int kind, int[] value, Worm worm) {}

  private final List<List<Worm>> lots = new ArrayList<>();
  private final List<Pot> pots = new ArrayList<>();
  private final List<Skein> skeins = new ArrayList<>();
  private final List<Fault> faults = new ArrayList<>();
  private final TreeMap<Integer, Thing> shelf = new TreeMap<>();
  private final int[] prices = {100, 80, 50, 20};
  private byte[] tape = {};
  private int faultAt = NONE, faultKind, today, waste, off, bound;
  private List<Integer> draws = List.of();
  private Set<Integer> latestMix = Set.of();

  private static int next(int x) { return x * 1103515245 + 12345; }
  private static boolean off(int v, int a, int b) { return v < a || v > b; }
  private static <T> T get(List<T> all, int i) { return i >= 0 && i < all.size() ? all.get(i) : null; }
  private Worm worm(int l, int i) { List<Worm> lot = get(lots, l); return lot == null ? null : get(lot, i); }

  public int lot(int n, int seed, int base, int length, int frail) {
    if (off(n, 1, 60) || off(base, 20, 60) || off(length, 40, 200) || off(frail, 0, 200) || lots.size() == 10) return NONE;
    List<Worm> lot = new ArrayList<>();
    for (int i = 0; i < n; i++) {
      Worm w = new Worm();
      w.lot = lots.size(); w.nr = i; w.seed = seed; w.frail = frail;
      int x = next(seed + 7919 * i);
      w.length = Math.max(20, length + (x >>> 16) % 41 - 20);
      w.base = base + (next(x) >>> 16) % 9 - 4;
      lot.add(w);
    }
    lots.add(lot);
    return lots.size() - 1;
  }

  public int cocoon(int l, int i, int what) {
    Worm w = worm(l, i);
    if (w == null || off(what, 0, 6)) return NONE;
    int[] all = {w.length, w.stand, w.place, w.stand == 4 ? 0 : w.now(), w.silk(0, w.length), w.silk(0, w.place),
        w.stand >= 1 && w.stand <= 3 ? w.pot : NONE};
    return all[what];
  }

  public int fineness(int l, int i, int p) {
    Worm w = worm(l, i);
    if (w == null || off(p, 0, w.length - 1)) throw new IndexOutOfBoundsException();
    return w.fine(p);
  }

  public int test(int l, int seed, int n) {
    List<Worm> lot = get(lots, l);
    if (lot == null) return NONE;
    List<Worm> idle = new ArrayList<>(lot.stream().filter(w -> w.stand == 0).toList());
    if (n < 0 || n > idle.size()) return NONE;
    int x = seed, broken = 0;
    for (int t = 0; t < n; t++) {
      x = next(x);
      Worm w = idle.remove((x >>> 16) % idle.size());
      boolean b = false;
      for (int p = 0; p < w.length; p++) b |= w.breaks(p);
      if (b) broken++;
    }
    return broken;
  }

  public int pot(int target, int find) {
    if (off(target, 10, 2000) || off(find, 1, 50) || pots.size() == 4) return NONE;
    Pot p = new Pot();
    p.target = target; p.find = find;
    pots.add(p);
    return pots.size() - 1;
  }

  public boolean target(int p, int v) {
    if (get(pots, p) == null || off(v, 10, 2000)) return false;
    pots.get(p).target = v;
    return true;
  }

  public boolean fill(int p, int l, int from, int n) {
    if (get(pots, p) == null || off(n, 1, 60)) return false;
    List<Worm> moved = new ArrayList<>();
    for (int j = 0; j < n; j++) {
      Worm w = worm(l, from + j);
      if (w == null || w.stand != 0) return false;
      moved.add(w);
    }
    for (Worm w : moved) { w.stand = 1; w.pot = p; pots.get(p).basket.add(w); }
    return true;
  }

  public int feed(int a, int b, int c, int d, int e) {
    if (tape.length + 20 > 400) return NONE;
    java.nio.ByteBuffer all = java.nio.ByteBuffer.allocate(tape.length + 20);
    all.put(tape).putInt(a).putInt(b).putInt(c).putInt(d).putInt(e);
    tape = all.array();
    return tape.length;
  }

  public int end(int n) {
    if (n < 0 || n > tape.length) return NONE;
    tape = Arrays.copyOf(tape, n);
    return n;
  }

  private static List<Token> tokens(byte[] tape) {
    String text = new String(tape, java.nio.charset.StandardCharsets.ISO_8859_1);
    List<Token> all = new ArrayList<>();
    java.util.regex.Matcher m = java.util.regex.Pattern.compile("[a-z]+|[0-9]+|[^ \n]").matcher(text);
    while (m.find()) all.add(new Token(m.group(), m.start()));
    all.add(new Token("", tape.length));
    return all;
  }

  private static boolean isNumber(String t) { return t.matches("[0-9]{1,4}"); }

  /** What may stand next is held as a state; the rules come out as they are closed. */
  private List<Rule> read(byte[] tape) {
    List<Rule> rules = new ArrayList<>();
    List<Condition> conditions = new ArrayList<>();
    String state = "rule", field = "", act = "";
    char rel = 0;
    int number = 0;
    for (Token t : tokens(tape)) {
      String w = t.text();
      String to = "";
      int kind = 1;
      switch (state) {
        case "rule":
          if (w.isEmpty()) return rules;
          if (w.equals("if") || ACTS.contains(w)) {
            if (rules.size() == 12) { kind = 2; break; }
            conditions = new ArrayList<>();
            number = 0;
            act = w;
            to = w.equals("if") ? "field" : w.equals("stop") ? "amount" : "semicolon";
          }
          break;
        case "field":
          if (FIELDS.contains(w)) { if (conditions.size() == 4) kind = 2; else { field = w; to = "rel"; } }
          break;
        case "rel":
          if (w.equals("<") || w.equals("=") || w.equals(">")) { rel = w.charAt(0); to = "number"; }
          break;
        case "number":
          if (isNumber(w)) { conditions.add(new Condition(field, rel, Integer.parseInt(w))); to = "more"; }
          break;
        case "more":
          if (w.equals("and")) to = "field";
          if (w.equals(":")) to = "act";
          break;
        case "act":
          if (ACTS.contains(w)) { act = w; to = w.equals("stop") ? "amount" : "semicolon"; }
          break;
        case "amount":
          if (isNumber(w)) { number = Integer.parseInt(w); to = "semicolon"; }
          break;
        default:
          if (w.equals(";")) { rules.add(new Rule(conditions, act, number)); to = "rule"; }
      }
      if (to.isEmpty()) { faultAt = t.at(); faultKind = kind; return null; }
      state = to;
    }
    throw new IllegalStateException("no end");
  }

  public int program(int p) {
    faultAt = NONE;
    if (get(pots, p) == null) return NONE;
    List<Rule> rules = read(tape);
    tape = new byte[0];
    if (rules == null) return faultKind - 10;
    pots.get(p).rules = rules;
    return rules.size();
  }

  public int place() { return faultAt; }

  private boolean holds(Pot p, Condition c) {
    int v = switch (c.field()) {
      case "fine" -> p.fine();
      case "ends" -> p.ends.size();
      case "basket" -> p.basket.size();
      case "lost" -> p.lost.size();
      case "made" -> p.grows.size();
      case "thin" -> p.thin();
      default -> today;
    };
    return c.rel() == '<' ? v < c.number() : c.rel() == '=' ? v == c.number() : v > c.number();
  }

  private void unlose(Pot p) {
    Worm w = p.lost.removeFirst();
    w.stand = 1;
    p.basket.addLast(w);
    if (p.lost.isEmpty()) p.search = 0;
  }

  private void act(Pot p, Rule r) {
    switch (r.act()) {
      case "cast" -> { if (!p.basket.isEmpty() && p.ends.size() < 12) { Worm w = p.basket.removeFirst(); w.stand = 2; p.ends.addLast(w); } }
      case "drop" -> {
        int thin = p.thin();
        for (Worm w : p.ends) if (w.now() == thin) { p.ends.remove(w); w.stand = 1; p.basket.addFirst(w); break; }
      }
      case "find" -> { if (!p.lost.isEmpty()) { unlose(p); p.stop += 2; } }
      case "throw" -> { if (!p.basket.isEmpty()) p.basket.removeLast().stand = 6; }
      case "cut" -> sever(p);
      default -> p.stop += r.number();
    }
  }

  private int sever(Pot p) {
    if (p.grows.isEmpty()) return NONE;
    Skein s = new Skein();
    s.pot = pots.indexOf(p); s.day = today; s.target = p.target; s.metres = p.grows;
    p.grows = new ArrayList<>();
    if (skeins.size() == 40) { waste += s.weight(); return -2; }
    skeins.add(s);
    return skeins.size() - 1;
  }

  private boolean tick(Pot p) {
    p.ticks++;
    if (!p.lost.isEmpty() && ++p.search == p.find) { p.search = 0; unlose(p); }
    if (p.stop == 0) for (Rule r : p.rules) if (r.conditions().stream().allMatch(c -> holds(p, c))) act(p, r);
    if (p.stop > 0) { p.stop--; return false; }
    if (p.ends.isEmpty()) return false;
    List<Drawn> metre = new ArrayList<>();
    for (Worm w : new ArrayList<>(p.ends)) {
      metre.add(new Drawn(w.lot, w.nr, w.place, w.now()));
      boolean broke = w.breaks(w.place);
      w.place++;
      if (w.place == w.length) { w.stand = 4; p.ends.remove(w); }
      else if (broke) { w.stand = 3; p.ends.remove(w); p.lost.addLast(w); }
    }
    p.grows.add(metre);
    p.metresEver++;
    if (p.grows.size() == 300) sever(p);
    return true;
  }

  public int run(int p, int n) {
    if (get(pots, p) == null || off(n, 0, 300)) return NONE;
    int made = 0;
    for (int t = 0; t < n; t++) if (tick(pots.get(p))) made++;
    return made;
  }

  public int about(int p, int what) {
    Pot o = get(pots, p);
    if (o == null || off(what, 0, 10)) return NONE;
    int[] all = {o.basket.size(), o.ends.size(), o.lost.size(), o.grows.size(), o.stop, o.search, o.fine(), o.metresEver,
        o.ticks, o.rules.size(), o.target};
    return all[what];
  }

  public int in(int p, int row, int i) {
    Pot o = get(pots, p);
    if (o == null || off(row, 0, 2)) throw new NoSuchElementException();
    Worm w = get(row == 0 ? o.basket : row == 1 ? o.ends : o.lost, i);
    if (w == null) throw new NoSuchElementException();
    return w.lot * 100 + w.nr;
  }

  public int cut(int p) { return get(pots, p) == null ? NONE : sever(pots.get(p)); }

  private int priceOf(Skein s) { return s.weight() * prices[s.grade] / 100; }

  private static List<Piece> pieces(Skein s) {
    List<Piece> all = new ArrayList<>();
    for (int m = 0; m < s.metres.size(); m++) {
      for (Drawn d : s.metres.get(m)) {
        if (m > 0 && inMetre(s, m - 1, d)) continue;
        int to = m;
        while (to < s.metres.size() && inMetre(s, to, d)) to++;
        all.add(new Piece(d.lot(), d.nr(), m, to - m, d.place()));
      }
    }
    return all;
  }

  private static boolean inMetre(Skein s, int m, Drawn d) {
    return s.metres.get(m).stream().anyMatch(e -> e.lot() == d.lot() && e.nr() == d.nr());
  }

  public int skein(int k, int what) {
    Skein s = get(skeins, k);
    if (s == null || off(what, 0, 11)) return NONE;
    int least = Integer.MAX_VALUE, most = 0, slips = 0;
    for (int m = 0; m < s.metres.size(); m++) {
      least = Math.min(least, s.fine(m));
      most = Math.max(most, s.fine(m));
      if (m > 0 && Math.abs(s.fine(m) - s.fine(m - 1)) > 4) slips++;
    }
    int[] all = {s.pot, s.day, s.metres.size(), s.weight(), least, most, slips, pieces(s).size(), s.grade, s.sold ? 1 : 0,
        priceOf(s), s.target};
    return all[what];
  }

  public int metre(int k, int m, int what) {
    Skein s = get(skeins, k);
    if (s == null || off(m, 0, s.metres.size() - 1) || off(what, 0, 1)) return NONE;
    return what == 0 ? s.fine(m) : s.metres.get(m).size();
  }

  public int piece(int k, int i, int what) {
    Skein s = get(skeins, k);
    Piece p = s == null ? null : get(pieces(s), i);
    if (p == null || off(what, 0, 4)) return NONE;
    return new int[] {p.lot(), p.nr(), p.first(), p.many(), p.place()}[what];
  }

  public int grade(int k, int seed, int d) {
    Skein s = get(skeins, k);
    if (s == null || off(d, 1, 5) || d > s.metres.size()) return NONE;
    int n = s.metres.size(), x = seed;
    List<Integer> drawn = new ArrayList<>();
    for (int t = 0; t < d; t++) {
      x = next(x);
      int m = (x >>> 16) % n;
      while (drawn.contains(m)) m = (m + 1) % n;
      drawn.add(m);
    }
    draws = drawn;
    off = drawn.stream().mapToInt(m -> Math.abs(s.fine(m) - s.target)).max().orElse(0);
    bound = 0;
    for (int b = 0; b <= n - d; b++) if (falling(n - b, d).multiply(BigInteger.valueOf(20)).compareTo(falling(n, d)) >= 0) bound = b;
    s.grade = off <= 3 ? 0 : off <= 8 ? 1 : off <= 20 ? 2 : 3;
    return s.grade;
  }

  private static BigInteger falling(int n, int d) {
    BigInteger all = BigInteger.ONE;
    for (int j = 0; j < d; j++) all = all.multiply(BigInteger.valueOf(n - j));
    return all;
  }

  public int drawn(int what) {
    if (draws.isEmpty()) return NONE;
    List<Integer> all = new ArrayList<>(List.of(off, bound));
    all.addAll(draws);
    Integer v = get(all, what);
    return v == null ? NONE : v;
  }

  public boolean shelve(int place, int kind, int a, int b) {
    if (off(place, 0, 15) || shelf.containsKey(place)) return false;
    if (kind == 0) {
      Worm w = worm(a, b);
      if (w == null || w.stand != 0) return false;
      w.stand = 5;
      shelf.put(place, new Thing(0, null, w));
    } else if (kind == 1) {
      shelf.put(place, new Thing(1, new int[] {a}, null));
    } else if (kind == 2 && !off(a, 0, 8)) {
      int[] row = new int[a];
      Arrays.fill(row, b);
      shelf.put(place, new Thing(2, a == 0 ? null : row, null));
    } else {
      return false;
    }
    return true;
  }

  public int take(int place, int kind) {
    if (off(place, 0, 15) || off(kind, 0, 2)) return NONE;
    Thing t = shelf.get(place);
    if (t == null) return -2;
    if (t.kind() != kind) return -3;
    if (kind == 2 && t.value() == null) return -4;
    shelf.remove(place);
    if (kind != 0) return Arrays.stream(t.value()).sum();
    t.worm().stand = 0;
    return t.worm().lot * 100 + t.worm().nr;
  }

  private int[] word(int place) {
    Thing t = shelf.get(place);
    return t == null || t.kind() != 2 ? null : t.value();
  }

  public boolean copy(int from, int at, int to, int where, int n) {
    int[] a = word(from), b = word(to);
    if (a == null || b == null || n < 0 || at < 0 || where < 0) return false;
    if ((long) at + n > a.length || (long) where + n > b.length) return false;
    int[] old = a.clone();
    for (int i = 0; i < n; i++) b[where + i] = old[at + i];
    return true;
  }

  public int number(int place, int i) {
    int[] row = word(place);
    return row == null || off(i, 0, row.length - 1) ? NONE : row[i];
  }

  public boolean price(int grade, int v) {
    if (off(grade, 0, 3) || off(v, 0, 1000)) return false;
    prices[grade] = v;
    return true;
  }

  private boolean fits(Skein s, int low, int high) {
    for (int m = 0; m < s.metres.size(); m++) if (off(s.fine(m), low, high)) return false;
    return !s.sold;
  }

  public int mix(int w, int low, int high, boolean sell) {
    List<Integer> offered = new ArrayList<>();
    for (int k = 0; k < skeins.size() && offered.size() < 14; k++) if (fits(skeins.get(k), low, high)) offered.add(k);
    int[] weights = offered.stream().mapToInt(k -> skeins.get(k).weight()).toArray();
    int[] costs = offered.stream().mapToInt(k -> priceOf(skeins.get(k))).toArray();
    int best = 0, bestPrice = 0;
    for (int set = 1; set < 1 << offered.size(); set++) {
      int weight = 0, cost = 0;
      for (int i = 0; i < weights.length; i++) if ((set >> i & 1) == 1) { weight += weights[i]; cost += costs[i]; }
      if (weight < w) continue;
      // The lowest bit in which two sets differ is the least number that is in one alone.
      if (best == 0 || cost < bestPrice || cost == bestPrice && (set & Integer.lowestOneBit(set ^ best)) != 0) { best = set; bestPrice = cost; }
    }
    if (w < 1 || best == 0) return NONE;
    latestMix = new TreeSet<>();
    for (int i = 0; i < offered.size(); i++) if ((best >> i & 1) == 1) { latestMix.add(offered.get(i)); if (sell) skeins.get(offered.get(i)).sold = true; }
    return bestPrice;
  }

  public boolean mixed(int k) { return latestMix.contains(k); }

  public int day() { return ++today; }

  public boolean fault(int k, int amount) {
    if (get(skeins, k) == null || off(amount, 1, 10000) || faults.size() == 40) return false;
    faults.add(new Fault(k, amount, today));
    return true;
  }

  public int pay(int p, int a, int k) {
    if (get(pots, p) == null || off(a, 0, today) || off(k, 0, today)) return 0;
    int sum = 0;
    for (int i = 0; i < skeins.size(); i++) {
      Skein s = skeins.get(i);
      if (s.pot != p || s.day != a) continue;
      sum += priceOf(s);
      for (Fault f : faults) if (f.skein() == i && f.day() <= k) sum -= f.amount();
    }
    return sum;
  }

  public int count(int what) {
    int kept = skeins.stream().mapToInt(Skein::weight).sum();
    int grows = pots.stream().flatMap(p -> p.grows.stream()).flatMap(List::stream).mapToInt(Drawn::fine).sum();
    int ever = lots.stream().flatMap(List::stream).mapToInt(w -> w.silk(0, w.place)).sum();
    int thrown = lots.stream().flatMap(List::stream).filter(w -> w.stand == 6).mapToInt(w -> w.silk(w.place, w.length)).sum();
    int[] all = {lots.size(), pots.size(), skeins.size(), today, tape.length, faults.size(), ever, kept, grows, waste, thrown,
        shelf.size()};
    return off(what, 0, 11) ? NONE : all[what];
  }
}
