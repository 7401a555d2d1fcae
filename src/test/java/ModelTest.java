import java.util.ArrayList;
import java.util.Arrays;
import java.util.Comparator;
import java.util.List;
import java.util.Random;

/**
 * Runs of 512 calls, drawn from fixed seeds, against a second telling of the document that sorts
 * where it says "by" and adds up day by day.
 */
public final class ModelTest {
  private static final int BAD = -1, NO = -2, FULL = -3, NONE = -4;

  private static final class H {
    int number, ward, kind, street, size, rent;
    final List<int[]> told = new ArrayList<>();
    final long[] paid = new long[10];
    final Integer[] billed = new Integer[10];
  }

  private static final class L {
    int day;
    final int[][][] units = new int[3][6][];
  }

  private final List<H> houses = new ArrayList<>();
  private final List<L> lists = new ArrayList<>();
  private final int[][] years = new int[10][];

  private boolean has(int house) { return house >= 0 && house < houses.size(); }
  private static boolean in(int v, int low, int high) { return v >= low && v <= high; }

  private int[] unitOf(int kind, int street, int leftOut) {
    for (int all = 0; all < 2; all++) {
      List<H> of = new ArrayList<>();
      for (H h : houses) {
        if (h.rent != 0 && h.kind == kind && (all == 1 || h.street == street) && h.number != leftOut) of.add(h);
      }
      if (of.isEmpty()) continue;
      of.sort(Comparator.<H>comparingDouble(h -> (double) h.rent / h.size).thenComparingInt(h -> h.number));
      H m = of.get(of.size() % 2 == 1 ? of.size() / 2 : of.size() / 2 - 1);
      return new int[] {m.rent, m.size, of.size(), m.number};
    }
    return new int[] {10, 1, 0, NONE};
  }

  private int listOn(int day) {
    for (int i = lists.size() - 1; i >= 0; i--) if (lists.get(i).day <= day) return i;
    return NONE;
  }

  private int[] latest(H h, int kind, int day) {
    List<int[]> of = new ArrayList<>();
    for (int[] e : h.told) if (e[1] == kind && e[0] <= day) of.add(e);
    of.sort(Comparator.comparingInt(e -> e[0]));
    return of.isEmpty() ? null : of.get(of.size() - 1);
  }

  private int sizeOn(H h, int day) { int[] e = latest(h, 0, day); return e == null ? h.size : e[2]; }
  private int useOn(H h, int day) { int[] e = latest(h, 1, day); return e == null ? 0 : e[2]; }

  private long worth(H h, int day) {
    int n = listOn(day);
    if (n == NONE) return 0;
    L l = lists.get(n);
    int[] u = l.units[h.kind][h.street];
    long w = (long) sizeOn(h, day) * u[0] / u[1];
    List<int[]> cuts = new ArrayList<>();
    for (int[] e : h.told) if (e[1] == 2 && e[0] <= day && e[0] >= l.day) cuts.add(e);
    cuts.sort(Comparator.comparingInt(e -> e[0]));
    for (int[] c : cuts) w = w * (1000 - c[2]) / 1000;
    return w;
  }

  private long counts(H h, int day) {
    long w = worth(h, day);
    int use = useOn(h, day);
    if (use == 0) return w;
    if (use == 2) return w / 2;
    if (use == 3) return w / 5;
    return day <= latest(h, 1, day)[0] + 89 ? 0 : w / 2;
  }

  private static long relief(long c) { return c > 1500 ? c : c > 1200 ? (c - 1200) * 5 : 0; }

  private long yearOf(H h, int year) {
    long sum = 0;
    for (int d = 365 * year; d <= 365 * year + 364; d++) sum += relief(counts(h, d));
    return sum;
  }

  private int least(int year, int needs) {
    long[] sums = new long[houses.size()];
    for (int i = 0; i < sums.length; i++) sums[i] = yearOf(houses.get(i), year);
    for (int p = 0; p <= 3000; p++) {
      long all = 0;
      for (long s : sums) all += s * p / 365000;
      if (all >= needs) return p;
    }
    return NONE;
  }

  private long answer(String call, int[] a) {
    switch (call) {
      case "house": {
        if (!in(a[0], 0, 3) || !in(a[1], 0, 2) || !in(a[2], 0, 5) || !in(a[3], 1, 500) || !in(a[4], 0, 100000)) return BAD;
        if (houses.size() == 40) return FULL;
        H h = new H();
        h.number = houses.size(); h.ward = a[0]; h.kind = a[1]; h.street = a[2]; h.size = a[3]; h.rent = a[4];
        houses.add(h);
        return h.number;
      }
      case "rent": {
        if (!has(a[0]) || !in(a[1], 0, 100000)) return BAD;
        int was = houses.get(a[0]).rent;
        houses.get(a[0]).rent = a[1];
        return was;
      }
      case "unit":
        return !in(a[0], 0, 2) || !in(a[1], 0, 5) || !in(a[2], 0, 3) ? BAD : unitOf(a[0], a[1], -1)[a[2]];
      case "tested": {
        if (!has(a[0])) return BAD;
        H h = houses.get(a[0]);
        int[] u = unitOf(h.kind, h.street, h.number);
        return (long) h.size * u[0] / u[1];
      }
      case "list": {
        if (!in(a[0], 0, 3649)) return BAD;
        if (!lists.isEmpty() && lists.get(lists.size() - 1).day >= a[0]) return NO;
        if (lists.size() == 10) return FULL;
        L l = new L();
        l.day = a[0];
        for (int k = 0; k < 3; k++) for (int s = 0; s < 6; s++) l.units[k][s] = unitOf(k, s, -1);
        lists.add(l);
        return lists.size() - 1;
      }
      case "event": {
        int[][] range = {{1, 500}, {0, 3}, {1, 900}};
        if (!has(a[0]) || !in(a[1], 0, 3649) || !in(a[2], 0, 2) || !in(a[3], range[a[2]][0], range[a[2]][1])) return BAD;
        H h = houses.get(a[0]);
        if (h.told.size() == 12) return FULL;
        h.told.add(new int[] {a[1], a[2], a[3]});
        return h.told.size();
      }
      case "appeal": {
        if (!has(a[0]) || !in(a[1], 0, 3649) || !in(a[2], 1, 900)) return BAD;
        H its = houses.get(a[0]);
        List<H> of = new ArrayList<>();
        for (H h : houses) if (h == its || (a[3] == 1 && h.kind == its.kind && h.street == its.street)) of.add(h);
        for (H h : of) if (h.told.size() == 12) return FULL;
        for (H h : of) h.told.add(new int[] {a[1], 2, a[2]});
        return of.size();
      }
      case "strike": {
        if (!has(a[0])) return BAD;
        List<int[]> told = houses.get(a[0]).told;
        if (told.isEmpty()) return NO;
        told.remove(told.size() - 1);
        return told.size();
      }
      case "on": {
        if (!has(a[0]) || !in(a[1], 0, 3649) || !in(a[2], 0, 5)) return BAD;
        H h = houses.get(a[0]);
        long[] all = {sizeOn(h, a[1]), useOn(h, a[1]), worth(h, a[1]), counts(h, a[1]), relief(counts(h, a[1])), listOn(a[1])};
        return all[a[2]];
      }
      case "year":
        return !has(a[0]) || !in(a[1], 0, 9) ? BAD : yearOf(houses.get(a[0]), a[1]);
      case "bill":
        return !has(a[0]) || !in(a[1], 0, 9) || !in(a[2], 0, 3000) ? BAD : yearOf(houses.get(a[0]), a[1]) * a[2] / 365000;
      case "poundage":
        return !in(a[0], 0, 9) || !in(a[1], 0, 100000000) ? BAD : least(a[0], a[1]);
      case "struck": {
        if (!in(a[0], 0, 9) || !in(a[1], 0, 100000000)) return BAD;
        int p = least(a[0], a[1]);
        if (p == NONE) return NO;
        years[a[0]] = new int[] {p, a[1]};
        for (H h : houses) h.billed[a[0]] = (int) (yearOf(h, a[0]) * p / 365000);
        return p;
      }
      case "pay": {
        if (!has(a[0]) || !in(a[1], 0, 9) || !in(a[2], 1, 10000000)) return BAD;
        H h = houses.get(a[0]);
        if (h.paid[a[1]] + a[2] > 10000000) return FULL;
        return h.paid[a[1]] += a[2];
      }
      case "paid": {
        if (!has(a[0]) || !in(a[1], 0, 9) || !in(a[2], 0, 1)) return BAD;
        H h = houses.get(a[0]);
        return a[2] == 1 ? h.paid[a[1]] : h.billed[a[1]] == null ? NONE : h.billed[a[1]];
      }
      case "owed": {
        if (!has(a[0]) || !in(a[1], 0, 1)) return BAD;
        H h = houses.get(a[0]);
        long[] both = new long[2];
        for (int y = 0; y < 10; y++) {
          if (h.billed[y] == null) continue;
          long open = h.billed[y] - h.paid[y];
          both[open > 0 ? 0 : 1] += Math.abs(open);
        }
        return both[a[1]];
      }
      case "ward": {
        if (!in(a[0], -1, 3) || !in(a[1], 0, 9) || !in(a[2], 0, 3)) return BAD;
        if (years[a[1]] == null) return NO;
        long billed = 0, paid = 0;
        for (H h : houses) {
          if (a[0] != -1 && h.ward != a[0]) continue;
          if (h.billed[a[1]] != null) billed += h.billed[a[1]];
          paid += h.paid[a[1]];
        }
        return new long[] {billed, paid, years[a[1]][0], years[a[1]][1]}[a[2]];
      }
      default: {
        if (!in(a[0], 0, 4)) return BAD;
        long[] all = {houses.size(), lists.size(), 0, 0, 0};
        for (H h : houses) { all[2] += h.told.size(); if (h.rent != 0) all[4]++; }
        for (int[] y : years) if (y != null) all[3]++;
        return all[a[0]];
      }
    }
  }

  private static long made(RateBook x, String call, int[] a) {
    switch (call) {
      case "house": return x.house(a[0], a[1], a[2], a[3], a[4]);
      case "rent": return x.rent(a[0], a[1]);
      case "unit": return x.unit(a[0], a[1], a[2]);
      case "tested": return x.tested(a[0]);
      case "list": return x.list(a[0]);
      case "event": return x.event(a[0], a[1], a[2], a[3]);
      case "appeal": return x.appeal(a[0], a[1], a[2], a[3] == 1);
      case "strike": return x.strike(a[0]);
      case "on": return x.on(a[0], a[1], a[2]);
      case "year": return x.year(a[0], a[1]);
      case "bill": return x.bill(a[0], a[1], a[2]);
      case "poundage": return x.poundage(a[0], a[1]);
      case "struck": return x.struck(a[0], a[1]);
      case "pay": return x.pay(a[0], a[1], a[2]);
      case "paid": return x.paid(a[0], a[1], a[2]);
      case "owed": return x.owed(a[0], a[1]);
      case "ward": return x.ward(a[0], a[1], a[2]);
      default: return x.count(a[0]);
    }
  }

  /** Draws calls near one another: few kinds and streets, days in a span of the seed's own. */
  private static final class Draw {
    final Random r;
    final int most, spread, firstDay, span;

    Draw(long seed) {
      r = new Random(seed);
      most = 1 + r.nextInt(r.nextBoolean() ? 5 : 45);
      spread = 1 + r.nextInt(6);
      span = r.nextBoolean() ? 3650 : 2 + r.nextInt(500);
      firstDay = r.nextInt(3650 - span + 1);
    }

    int edge(int low, int high) {
      switch (r.nextInt(40)) {
        case 0: return low - 1;
        case 1: return high + 1;
        case 2: return r.nextBoolean() ? Integer.MIN_VALUE : Integer.MAX_VALUE;
        case 3: return low;
        case 4: return high;
        default: return low + r.nextInt(high - low + 1);
      }
    }
    int house() { return r.nextInt(30) == 0 ? edge(0, 39) : r.nextInt(most); }
    int day() { return r.nextInt(30) == 0 ? edge(0, 3649) : firstDay + r.nextInt(span); }
    int year() { return r.nextInt(30) == 0 ? edge(0, 9) : Math.min(9, (firstDay + r.nextInt(span)) / 365); }
    int kind() { return r.nextInt(30) == 0 ? edge(0, 2) : r.nextInt(Math.min(3, spread)); }
    int street() { return r.nextInt(30) == 0 ? edge(0, 5) : r.nextInt(spread); }
    int size() { return r.nextInt(3) == 0 ? edge(1, 500) : 1 + r.nextInt(60); }
    int rent() { return r.nextInt(4) == 0 ? 0 : r.nextInt(4) == 0 ? edge(0, 100000) : r.nextInt(3000); }
    int needs() { return r.nextInt(4) == 0 ? edge(0, 100000000) : r.nextInt(1 << r.nextInt(20)); }
    int sum() { return r.nextInt(6) == 0 ? edge(1, 10000000) : 1 + r.nextInt(5000); }
    int value(int kind) { return kind == 0 ? size() : kind == 1 ? edge(0, 3) : edge(1, 900); }

    int[] of(String call) {
      switch (call) {
        case "house": return new int[] {edge(0, 3), kind(), street(), size(), rent()};
        case "rent": return new int[] {house(), rent()};
        case "unit": return new int[] {kind(), street(), edge(0, 3)};
        case "tested": case "strike": return new int[] {house()};
        case "list": return new int[] {day()};
        case "event": { int k = edge(0, 2); return new int[] {house(), day(), k, value(k)}; }
        case "appeal": return new int[] {house(), day(), edge(1, 900), r.nextInt(2)};
        case "on": return new int[] {house(), day(), edge(0, 5)};
        case "year": return new int[] {house(), year()};
        case "bill": return new int[] {house(), year(), edge(0, 3000)};
        case "poundage": case "struck": return new int[] {year(), needs()};
        case "pay": return new int[] {house(), year(), sum()};
        case "paid": return new int[] {house(), year(), edge(0, 1)};
        case "owed": return new int[] {house(), edge(0, 1)};
        case "ward": return new int[] {edge(-1, 3), year(), edge(0, 3)};
        default: return new int[] {edge(0, 4)};
      }
    }
  }

  private static final String[] CALLS = {"house", "rent", "unit", "tested", "list", "event", "event", "event", "appeal",
    "strike", "on", "on", "on", "year", "bill", "poundage", "struck", "pay", "paid", "owed", "ward", "count"};

  public static void main(String[] args) {
    int wrong = 0;
    for (int seed = 1; seed <= 150 && wrong < 20; seed++) {
      Draw draw = new Draw(seed);
      RateBook x = new RateBook();
      ModelTest m = new ModelTest();
      for (int i = 0; i < 512; i++) {
        boolean building = i < draw.most || draw.r.nextInt(40) == 0;
        String call = building ? "house" : CALLS[1 + draw.r.nextInt(CALLS.length - 1)];
        if (call.equals("list") && draw.r.nextInt(2) == 0) call = "on";
        int[] a = draw.of(call);
        long want = m.answer(call, a);
        long got = made(x, call, a);
        if (got != want) {
          wrong++;
          System.out.println("seed " + seed + ", call " + i + ": " + call + Arrays.toString(a)
            + " answered " + got + ", due is " + want);
          break;
        }
      }
    }
    System.out.println(wrong == 0 ? "all answers are as due" : wrong + " runs are not as due");
    if (wrong != 0) System.exit(1);
  }
}
