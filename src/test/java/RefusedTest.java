import java.util.ArrayList;
import java.util.List;

/** 'Of several the first; nothing changes then': each refused call, on a town with room and on a full one. */
public final class RefusedTest {
  private static final int BAD = -1, NO = -2, FULL = -3, NONE = -4;
  private static final int LEAST = Integer.MIN_VALUE, MOST = Integer.MAX_VALUE;
  private static int wrong = 0;

  private interface Call {
    long of(RateBook x);
  }

  /**
   * A town with something of everything, of 8 houses and 3 lists, or a full one, of 40 and 10. House 0 has 3 EVENTS, or 12;
   * house 1 is like it. Years 0 and 2 are struck; house 0 has paid all that may be paid for year 0.
   */
  private static RateBook town(boolean full) {
    RateBook x = new RateBook();
    x.house(0, 0, 0, 40, 1800);
    x.house(1, 0, 0, 30, 0);
    x.house(2, 0, 1, 50, 2900);
    x.house(3, 1, 1, 60, 0);
    for (int i = 4; i < (full ? 40 : 8); i++) x.house(i % 4, i % 3, 2 + i % 4, 10 * i, i % 2 == 0 ? 0 : 400 * i);
    for (int i = 1; i <= (full ? 10 : 3); i++) x.list(i * 100);
    x.event(0, 150, 0, 45);
    x.event(0, 150, 0, 46);
    x.event(0, 120, 2, 100);
    for (int i = 3; full && i < 12; i++) x.event(0, 800 - 10 * i, i % 2, 2 + i % 2);
    x.event(1, 500, 1, 1);
    x.pay(0, 0, 10000000);
    x.struck(0, 2000);
    x.struck(2, 1000);
    x.house(0, 2, 5, 33, 44);
    x.pay(1, 2, 3);
    return x;
  }

  /** What can be asked of a town, and then what comes to light when more is told of it. */
  private static List<Long> answers(RateBook x) {
    List<Long> all = new ArrayList<>();
    for (int what = 0; what <= 4; what++) all.add((long) x.count(what));
    for (int i = 0; i < 18; i++) all.add((long) x.unit(i / 6, i % 6, 0) * 1000 + x.unit(i / 6, i % 6, 2));
    int[] houses = {0, 1, 3, 8, 39};
    for (int house : houses) {
      all.add((long) x.tested(house));
      for (int day : new int[] {150, 589, 590, 3649}) {
        all.add((long) x.on(house, day, 1));
        all.add((long) x.on(house, day, 2));
        all.add((long) x.on(house, day, 4));
      }
      for (int year : new int[] {0, 1, 2, 9}) {
        all.add(x.year(house, year));
        all.add((long) x.paid(house, year, 0));
        all.add((long) x.paid(house, year, 1));
      }
      all.add((long) x.owed(house, 0));
      all.add((long) x.owed(house, 1));
    }
    for (int year : new int[] {0, 1, 2, 9}) {
      for (int what = 0; what <= 3; what++) all.add((long) x.ward(-1, year, what));
      all.add((long) x.ward(0, year, 0));
    }
    for (int i = 0; i < 13; i++) {
      all.add((long) x.strike(0));
      all.add((long) x.on(0, 800, 0));
      all.add((long) x.on(0, 150, 2));
    }
    all.add((long) x.strike(1));
    all.add((long) x.strike(1));
    all.add((long) x.house(3, 2, 5, 500, 5));
    all.add((long) x.list(3000));
    all.add((long) x.on(3, 3000, 2));
    all.add((long) x.struck(1, 10));
    all.add((long) x.ward(1, 1, 1));
    all.add((long) x.pay(0, 0, 1));
    return all;
  }

  private static final List<Long> WITH_ROOM = answers(town(false)), OF_A_FULL_ONE = answers(town(true));

  private static void refused(String call, boolean full, long want, Call c) {
    RateBook x = town(full);
    long got = c.of(x);
    if (got != want) {
      wrong++;
      System.out.println(call + (full ? " of a full town" : "") + " answered " + got + ", due is " + want);
    }
    if (!answers(x).equals(full ? OF_A_FULL_ONE : WITH_ROOM)) {
      wrong++;
      System.out.println(call + (full ? " of a full town" : "") + " changed something");
    }
  }

  private static void onBoth(String call, long want, Call c) {
    refused(call, false, want, c);
    refused(call, true, want, c);
  }

  public static void main(String[] args) {
    houses(); rents(); lists(); events(); appeals(); strikes(); strucks(); pays(); asked();
    emptyTown();
    System.out.println(wrong == 0 ? "all answers are as due" : wrong + " answers are not as due");
    if (wrong != 0) System.exit(1);
  }

  private static void houses() {
    for (int v : new int[] {-1, 4, LEAST, MOST}) onBoth("house, ward " + v, BAD, x -> x.house(v, 0, 0, 1, 1));
    for (int v : new int[] {-1, 3, LEAST, MOST}) onBoth("house, kind " + v, BAD, x -> x.house(0, v, 0, 1, 1));
    for (int v : new int[] {-1, 6, LEAST, MOST}) onBoth("house, street " + v, BAD, x -> x.house(0, 0, v, 1, 1));
    for (int v : new int[] {0, 501, LEAST, MOST}) onBoth("house, size " + v, BAD, x -> x.house(0, 0, 0, v, 1));
    for (int v : new int[] {-1, 100001, LEAST, MOST}) onBoth("house, rent " + v, BAD, x -> x.house(0, 0, 0, 1, v));
    refused("house 40", true, FULL, x -> x.house(0, 0, 0, 1, 1));
  }

  private static final int[] NO_HOUSES = {-1, 40, LEAST, MOST};

  private static void rents() {
    for (int h : NO_HOUSES) onBoth("rent of house " + h, BAD, x -> x.rent(h, 5));
    refused("rent of house 9", false, BAD, x -> x.rent(9, 5));
    for (int v : new int[] {-1, 100001, LEAST, MOST}) onBoth("rent " + v, BAD, x -> x.rent(0, v));
  }

  private static void lists() {
    for (int day : new int[] {-1, 3650, LEAST, MOST}) onBoth("list of day " + day, BAD, x -> x.list(day));
    refused("list of the latest's day", false, NO, x -> x.list(300));
    refused("list of a day ahead of it", false, NO, x -> x.list(299));
    onBoth("list of day 0", NO, x -> x.list(0));
    refused("list of the latest's day: NO is ahead of FULL", true, NO, x -> x.list(1000));
    refused("list of a day ahead of it: NO is ahead of FULL", true, NO, x -> x.list(999));
    refused("list of the day behind the latest's", true, FULL, x -> x.list(1001));
    refused("list of the last day", true, FULL, x -> x.list(3649));
  }

  private static void events() {
    for (int h : NO_HOUSES) onBoth("event of house " + h, BAD, x -> x.event(h, 0, 0, 1));
    for (int v : new int[] {-1, 3650, LEAST, MOST}) onBoth("event of day " + v, BAD, x -> x.event(0, v, 0, 1));
    for (int v : new int[] {-1, 3, LEAST, MOST}) onBoth("event of kind " + v, BAD, x -> x.event(0, 0, v, 1));
    for (int v : new int[] {0, 501, LEAST, MOST}) onBoth("size " + v, BAD, x -> x.event(0, 0, 0, v));
    for (int v : new int[] {-1, 4, LEAST, MOST}) onBoth("use " + v, BAD, x -> x.event(0, 0, 1, v));
    for (int v : new int[] {0, 901, LEAST, MOST}) onBoth("cut " + v, BAD, x -> x.event(0, 0, 2, v));
    for (int kind = 0; kind <= 2; kind++) {
      int k = kind;
      refused("a 13th event", true, FULL, x -> x.event(0, 700, k, 1));
    }
  }

  private static void appeals() {
    for (int like = 0; like <= 1; like++) {
      boolean l = like == 1;
      for (int h : NO_HOUSES) onBoth("appeal of house " + h, BAD, x -> x.appeal(h, 0, 1, l));
      for (int v : new int[] {-1, 3650, LEAST, MOST}) onBoth("appeal of day " + v, BAD, x -> x.appeal(0, v, 1, l));
      for (int v : new int[] {0, 901, LEAST, MOST}) onBoth("appeal, cut " + v, BAD, x -> x.appeal(0, 0, v, l));
      refused("appeal of one with 12", true, FULL, x -> x.appeal(0, 500, 300, l));
    }
    refused("appeal of one like one with 12", true, FULL, x -> x.appeal(1, 500, 300, true));
    refused("a wrong appeal of one like one with 12", true, BAD, x -> x.appeal(1, 500, 901, true));
  }

  private static void strikes() {
    for (int h : NO_HOUSES) onBoth("strike of house " + h, BAD, x -> x.strike(h));
    onBoth("strike of one without events", NO, x -> x.strike(3));
  }

  private static void strucks() {
    for (int y : new int[] {-1, 10, LEAST, MOST}) onBoth("struck year " + y, BAD, x -> x.struck(y, 5));
    for (int v : new int[] {-1, 100000001, LEAST, MOST}) {
      onBoth("struck for " + v, BAD, x -> x.struck(1, v));
      onBoth("struck anew for " + v, BAD, x -> x.struck(0, v));
    }
    onBoth("struck for more than there is", NO, x -> x.struck(1, 100000000));
    onBoth("struck anew for more than there is", NO, x -> x.struck(0, 100000000));
  }

  private static void pays() {
    for (int h : NO_HOUSES) onBoth("pay of house " + h, BAD, x -> x.pay(h, 0, 1));
    for (int y : new int[] {-1, 10, LEAST, MOST}) onBoth("pay for year " + y, BAD, x -> x.pay(1, y, 1));
    for (int v : new int[] {0, -1, 10000001, LEAST, MOST}) {
      onBoth("pay " + v, BAD, x -> x.pay(1, 2, v));
      onBoth("pay, all is paid, " + v, BAD, x -> x.pay(0, 0, v));
    }
    onBoth("pay more than all", FULL, x -> x.pay(0, 0, 1));
    onBoth("pay far more than all", FULL, x -> x.pay(0, 0, 10000000));
    onBoth("pay 2 too many by 1", FULL, x -> x.pay(1, 2, 9999998));
  }

  private static void asked() {
    onBoth("unit, what 4", BAD, x -> x.unit(0, 0, 4));
    onBoth("tested of house 40", BAD, x -> x.tested(40));
    onBoth("on, what 6", BAD, x -> x.on(0, 0, 6));
    onBoth("year 10", BAD, x -> x.year(0, 10));
    onBoth("bill with 3001", BAD, x -> x.bill(0, 0, 3001));
    onBoth("poundage for too much", BAD, x -> x.poundage(0, 100000001));
    onBoth("poundage: none", NONE, x -> x.poundage(0, 100000000));
    onBoth("poundage of year 1", 1, x -> Math.min(1, x.poundage(1, 100)));
    onBoth("paid, what 2", BAD, x -> x.paid(0, 0, 2));
    onBoth("owed, what 2", BAD, x -> x.owed(0, 2));
    onBoth("ward, what 4", BAD, x -> x.ward(0, 0, 4));
    onBoth("ward, what 4 of a year that is not struck: BAD is ahead of NO", BAD, x -> x.ward(0, 1, 4));
    onBoth("ward, what -1 of a year that is not struck", BAD, x -> x.ward(0, 1, -1));
    onBoth("ward 4 of a year that is not struck", BAD, x -> x.ward(4, 1, 0));
    onBoth("ward -2 of a year that is not struck", BAD, x -> x.ward(-2, 1, 0));
    onBoth("ward of a year that is not struck", NO, x -> x.ward(0, 1, 0));
    onBoth("count, what 5", BAD, x -> x.count(5));
  }

  private static void empty(String call, long want, Call c) {
    RateBook x = new RateBook();
    long got = c.of(x);
    boolean same = x.house(0, 0, 0, 200, 0) == 0 && x.list(0) == 0 && x.count(2) == 0 && x.count(3) == 0
        && x.paid(0, 0, 1) == 0 && x.paid(0, 0, 0) == NONE && x.year(0, 0) == 730000;
    if (got != want || !same) {
      wrong++;
      System.out.println(call + " of an empty town answered " + got + ", due is " + want + (same ? "" : ", changed something"));
    }
  }

  private static void emptyTown() {
    empty("rent", BAD, x -> x.rent(0, 5));
    empty("event", BAD, x -> x.event(0, 0, 0, 5));
    empty("appeal", BAD, x -> x.appeal(0, 0, 5, false));
    empty("appeal of like", BAD, x -> x.appeal(0, 0, 5, true));
    empty("strike: BAD is ahead of NO", BAD, x -> x.strike(0));
    empty("pay", BAD, x -> x.pay(0, 0, 5));
    empty("struck", NO, x -> x.struck(0, 5));
    empty("struck for too much: BAD is ahead of NO", BAD, x -> x.struck(0, 100000001));
    empty("struck year 10: BAD is ahead of NO", BAD, x -> x.struck(10, 5));
    empty("struck year -1: BAD is ahead of NO", BAD, x -> x.struck(-1, 5));
    empty("poundage", NONE, x -> x.poundage(0, 5));
    empty("poundage for too much: BAD is ahead of NONE", BAD, x -> x.poundage(0, 100000001));
    empty("poundage of year 10: BAD is ahead of NONE", BAD, x -> x.poundage(10, 5));
    empty("list of day 3650", BAD, x -> x.list(3650));
    empty("ward", NO, x -> x.ward(0, 0, 0));
    empty("on", BAD, x -> x.on(0, 0, 5));
  }
}
