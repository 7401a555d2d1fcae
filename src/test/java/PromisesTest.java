// A test for each promise of the document: ordinary inputs, its edges, wrong inputs.
public final class PromisesTest {
  private static final int BAD = -1, NO = -2, FULL = -3, NONE = -4;
  private static int wrong = 0;
  private static int promise = 0;

  private static void due(String call, long got, long want) {
    if (got != want) {
      wrong++;
      System.out.println("promise " + promise + ": " + call + " answered " + got + ", due is " + want);
    }
  }

  public static void main(String[] args) {
    promise = 1; newObject();
    promise = 2; house();
    promise = 3; rent();
    promise = 4; unit();
    promise = 5; tested();
    promise = 6; list();
    promise = 7; event();
    promise = 8; appeal();
    promise = 9; strike();
    promise = 10; onSizeAndUse(); onWorth(); onCounts(); onRelief();
    promise = 11; year();
    promise = 12; bill();
    promise = 13; poundage();
    promise = 14; struck();
    promise = 15; pay();
    promise = 16; paid();
    promise = 17; owed();
    promise = 18; ward();
    promise = 19; count();
    System.out.println(wrong == 0 ? "all answers are as due" : wrong + " answers are not as due");
    if (wrong != 0) System.exit(1);
  }

  /** One house of its own kind with unit 10 by 1 and a list from day 0. */
  private static RateBook oneHouse(int size) {
    RateBook x = new RateBook();
    x.house(0, 0, 0, size, 0);
    x.list(0);
    return x;
  }

  private static void newObject() {
    RateBook x = new RateBook();
    for (int what = 0; what <= 4; what++) due("count(" + what + ")", x.count(what), 0);
    due("list(0)", x.list(0), 0);
    due("house", x.house(0, 0, 0, 1, 0), 0);
    RateBook y = new RateBook();
    due("count(0) of another", y.count(0), 0);
    due("count(1) of another", y.count(1), 0);
  }

  private static void house() {
    RateBook x = new RateBook();
    due("least numbers", x.house(0, 0, 0, 1, 0), 0);
    due("most numbers", x.house(3, 2, 5, 500, 100000), 1);
    int[][] wrongOnes = {{-1, 0, 0, 1, 0}, {4, 0, 0, 1, 0}, {0, -1, 0, 1, 0}, {0, 3, 0, 1, 0}, {0, 0, -1, 1, 0},
      {0, 0, 6, 1, 0}, {0, 0, 0, 0, 0}, {0, 0, 0, 501, 0}, {0, 0, 0, 1, -1}, {0, 0, 0, 1, 100001},
      {Integer.MIN_VALUE, 0, 0, 1, 0}, {0, Integer.MAX_VALUE, 0, 1, 0}};
    for (int[] w : wrongOnes) due("a wrong house", x.house(w[0], w[1], w[2], w[3], w[4]), BAD);
    due("count(0)", x.count(0), 2);
    for (int i = 2; i < 40; i++) due("house " + i, x.house(i % 4, i % 3, i % 6, i, 0), i);
    due("the 41st", x.house(0, 0, 0, 1, 0), FULL);
    due("a wrong 41st", x.house(0, 0, 0, 0, 0), BAD);
    due("count(0)", x.count(0), 40);
  }

  private static void rent() {
    RateBook x = new RateBook();
    due("no house", x.rent(0, 1), BAD);
    x.house(0, 0, 0, 10, 0);
    due("known", x.rent(0, 100000), 0);
    due("another", x.rent(0, 7), 100000);
    due("unit above", x.unit(0, 0, 0), 7);
    due("struck", x.rent(0, 0), 7);
    due("struck again", x.rent(0, 0), 0);
    due("unit without", x.unit(0, 0, 2), 0);
    due("below", x.rent(0, -1), BAD);
    due("above", x.rent(0, 100001), BAD);
    due("house -1", x.rent(-1, 1), BAD);
    due("house 1", x.rent(1, 1), BAD);
    due("house 40", x.rent(40, 1), BAD);
    due("nothing changed", x.count(4), 0);
  }

  private static void unit() {
    RateBook x = new RateBook();
    x.house(0, 1, 2, 20, 300);
    x.house(0, 1, 2, 10, 150);
    due("of like fractions the lower number, above", x.unit(1, 2, 0), 300);
    due("below, as it is", x.unit(1, 2, 1), 20);
    due("two rents", x.unit(1, 2, 2), 2);
    due("house", x.unit(1, 2, 3), 0);
    x.house(0, 1, 2, 10, 100);
    due("the middle of 10, 15, 15", x.unit(1, 2, 3), 0);
    x.house(0, 1, 2, 10, 99);
    due("the lesser middle of 9.9, 10, 15, 15", x.unit(1, 2, 3), 2);
    due("four rents", x.unit(1, 2, 2), 4);
    due("of the kind in all streets", x.unit(1, 3, 3), 2);
    x.house(0, 1, 3, 7, 700);
    due("of its own street", x.unit(1, 3, 3), 4);
    due("of its own street: one", x.unit(1, 3, 2), 1);
    due("all streets: the third of five", x.unit(1, 4, 3), 0);
    due("all streets: five", x.unit(1, 4, 2), 5);
    due("another kind: none", x.unit(2, 2, 3), NONE);
    due("another kind: 10", x.unit(2, 2, 0), 10);
    due("another kind: 1", x.unit(2, 2, 1), 1);
    x.event(4, 0, 0, 14);
    due("the size that it came with", x.unit(1, 3, 1), 7);
    x.rent(4, 0);
    due("a rent struck: of all streets again", x.unit(1, 3, 3), 2);
    due("close fractions", closeFractions(), 1);
    RateBook y = new RateBook();
    y.house(0, 0, 0, 500, 1);
    due("the least rent, above", y.unit(0, 0, 0), 1);
    due("the least rent, below", y.unit(0, 0, 1), 500);
    y.house(0, 0, 0, 1, 5);
    y.house(0, 0, 0, 1, 4);
    due("the first is the least", y.unit(0, 0, 3), 2);
    int[][] wrongOnes = {{-1, 0, 0}, {3, 0, 0}, {0, -1, 0}, {0, 6, 0}, {0, 0, -1}, {0, 0, 4}};
    for (int[] w : wrongOnes) due("a wrong unit", x.unit(w[0], w[1], w[2]), BAD);
  }

  private static int closeFractions() {
    RateBook x = new RateBook();
    x.house(0, 0, 0, 499, 99999);
    x.house(0, 0, 0, 500, 100000);
    return x.unit(0, 0, 3);
  }

  private static void tested() {
    RateBook x = new RateBook();
    due("no house", x.tested(0), BAD);
    x.house(0, 0, 0, 10, 200);
    due("alone: 10 by 1", x.tested(0), 100);
    x.house(0, 0, 5, 20, 700);
    due("by the kind in all streets", x.tested(0), 350);
    x.house(0, 0, 0, 30, 1000);
    due("by its own street, cut", x.tested(0), 333);
    x.house(0, 0, 0, 10, 500);
    due("the lesser middle of the others", x.tested(0), 333);
    due("without a rent of its own: the middle of all three would do", x.tested(2), 600);
    x.event(0, 0, 0, 500);
    due("the size that it came with", x.tested(0), 333);
    due("its rent is known still", x.count(4), 4);
    due("house -1", x.tested(-1), BAD);
    due("house 4", x.tested(4), BAD);
    RateBook y = new RateBook();
    y.house(0, 0, 0, 1, 100000);
    y.house(0, 0, 0, 500, 1);
    due("the most", y.tested(1), 50000000);
  }

  private static void list() {
    RateBook x = new RateBook();
    x.house(0, 0, 0, 100, 2000);
    due("-1", x.list(-1), BAD);
    due("3650", x.list(3650), BAD);
    due("from 5", x.list(5), 0);
    due("same day", x.list(5), NO);
    due("sooner", x.list(4), NO);
    x.rent(0, 3000);
    due("as units were when it was made", x.on(0, 5, 2), 2000);
    due("from 6", x.list(6), 1);
    due("the day ahead", x.on(0, 5, 2), 2000);
    due("its day", x.on(0, 6, 2), 3000);
    for (int i = 2; i < 10; i++) due("list " + i, x.list(3600 + i), i);
    due("full", x.list(3649), FULL);
    due("full, and wrong", x.list(3650), BAD);
    due("full, and too soon", x.list(3609), NO);
    due("count(1)", x.count(1), 10);
    RateBook y = new RateBook();
    due("the last day", y.list(3649), 0);
    due("behind it there is none", y.list(3649), NO);
  }

  private static void event() {
    RateBook x = new RateBook();
    due("no house", x.event(0, 0, 0, 1), BAD);
    x.house(0, 0, 0, 10, 0);
    int[][] wrongOnes = {{-1, 0, 0, 1}, {1, 0, 0, 1}, {0, -1, 0, 1}, {0, 3650, 0, 1}, {0, 0, -1, 1}, {0, 0, 3, 1},
      {0, 0, 0, 0}, {0, 0, 0, 501}, {0, 0, 1, -1}, {0, 0, 1, 4}, {0, 0, 2, 0}, {0, 0, 2, 901}};
    for (int[] w : wrongOnes) due("a wrong event", x.event(w[0], w[1], w[2], w[3]), BAD);
    due("nothing changed", x.count(2), 0);
    int[][] edges = {{0, 0, 1}, {0, 0, 500}, {3649, 1, 0}, {3649, 1, 3}, {0, 2, 1}, {0, 2, 900}};
    for (int i = 0; i < edges.length; i++) due("event " + i, x.event(0, edges[i][0], edges[i][1], edges[i][2]), i + 1);
    for (int i = 7; i <= 12; i++) due("event " + i, x.event(0, 0, 0, 5), i);
    due("13th", x.event(0, 0, 0, 5), FULL);
    due("a wrong 13th", x.event(0, 0, 0, 501), BAD);
    due("count(2)", x.count(2), 12);
  }

  private static void appeal() {
    RateBook x = new RateBook();
    due("no house", x.appeal(0, 0, 1, false), BAD);
    x.house(0, 0, 0, 100, 10000);
    x.house(1, 0, 0, 100, 0);
    x.house(0, 0, 1, 100, 0);
    x.house(0, 1, 0, 100, 0);
    x.list(0);
    due("cut 0", x.appeal(0, 0, 0, true), BAD);
    due("cut 901", x.appeal(0, 0, 901, true), BAD);
    due("day -1", x.appeal(0, -1, 1, false), BAD);
    due("day 3650", x.appeal(0, 3650, 1, false), BAD);
    due("house 4", x.appeal(4, 0, 1, true), BAD);
    due("house -1", x.appeal(-1, 0, 1, true), BAD);
    due("nothing changed", x.count(2), 0);
    due("one", x.appeal(1, 10, 900, false), 1);
    due("its like", x.on(0, 10, 2), 10000);
    due("it", x.on(1, 10, 2), 1000);
    due("it, the day ahead", x.on(1, 9, 2), 10000);
    due("all like", x.appeal(1, 20, 1, true), 2);
    due("its like", x.on(0, 20, 2), 9990);
    due("it", x.on(1, 20, 2), 999);
    due("another street", x.on(2, 20, 2), 10000);
    due("another kind", x.on(3, 20, 2), 1000);
    for (int i = 3; i <= 12; i++) x.event(1, 0, 0, i);
    due("full", x.appeal(1, 30, 1, false), FULL);
    due("a like one is full", x.appeal(0, 30, 1, true), FULL);
    due("it is full, like", x.appeal(1, 30, 1, true), FULL);
    due("a wrong one of a full one", x.appeal(1, 30, 901, false), BAD);
    due("nothing changed", x.count(2), 13);
    due("it alone", x.appeal(0, 30, 1, false), 1);
    due("a full one is not like", x.appeal(2, 30, 1, true), 1);
    x.strike(1);
    due("again", x.appeal(0, 30, 1, true), 2);
    for (int i = 0; i < 12; i++) x.event(0, 30, 0, 1);
    x.strike(1);
    due("the first of those like is full", x.appeal(1, 30, 1, true), FULL);
  }

  private static void strike() {
    RateBook x = oneHouse(10);
    due("none", x.strike(0), NO);
    due("house 1", x.strike(1), BAD);
    due("house -1", x.strike(-1), BAD);
    x.event(0, 50, 0, 20);
    x.event(0, 10, 0, 30);
    x.event(0, 30, 0, 40);
    due("the latest told, not by day", x.strike(0), 2);
    due("day 30", x.on(0, 30, 0), 30);
    due("day 50", x.on(0, 50, 0), 20);
    due("again", x.strike(0), 1);
    due("day 30", x.on(0, 30, 0), 10);
    due("day 50", x.on(0, 50, 0), 20);
    due("told anew", x.event(0, 50, 0, 21), 2);
    due("told anew counts", x.on(0, 50, 0), 21);
    due("that goes", x.strike(0), 1);
    due("the first counts", x.on(0, 50, 0), 20);
    x.appeal(0, 0, 500, true);
    due("an appeal's cut goes too", x.strike(0), 1);
    due("its worth", x.on(0, 0, 2), 100);
    due("the last", x.strike(0), 0);
    due("none", x.strike(0), NO);
    due("count(2)", x.count(2), 0);
  }

  private static void onSizeAndUse() {
    RateBook x = new RateBook();
    due("no house", x.on(0, 0, 0), BAD);
    x.house(0, 0, 0, 10, 0);
    due("house 1", x.on(1, 0, 0), BAD);
    due("house -1", x.on(-1, 0, 0), BAD);
    due("day -1", x.on(0, -1, 0), BAD);
    due("day 3650", x.on(0, 3650, 0), BAD);
    due("what -1", x.on(0, 0, -1), BAD);
    due("what 6", x.on(0, 0, 6), BAD);
    due("size without", x.on(0, 3649, 0), 10);
    due("use without", x.on(0, 0, 1), 0);
    x.event(0, 100, 0, 20);
    x.event(0, 100, 1, 3);
    x.event(0, 50, 0, 30);
    x.event(0, 50, 1, 2);
    due("size 49", x.on(0, 49, 0), 10);
    due("size 50", x.on(0, 50, 0), 30);
    due("size 99", x.on(0, 99, 0), 30);
    due("size 100", x.on(0, 100, 0), 20);
    due("use 49", x.on(0, 49, 1), 0);
    due("use 50", x.on(0, 50, 1), 2);
    due("use 100", x.on(0, 100, 1), 3);
    x.event(0, 100, 1, 0);
    due("of one day the last told", x.on(0, 100, 1), 0);
    due("list", x.on(0, 100, 5), NONE);
    due("worth without a list", x.on(0, 100, 2), 0);
    x.list(60);
    x.list(61);
    due("list 59", x.on(0, 59, 5), NONE);
    due("list 60", x.on(0, 60, 5), 0);
    due("list 61", x.on(0, 61, 5), 1);
    due("list 3649", x.on(0, 3649, 5), 1);
  }

  private static void onWorth() {
    RateBook x = new RateBook();
    x.house(0, 0, 0, 30, 1000);
    x.house(0, 0, 1, 7, 0);
    x.list(10);
    due("cut", x.on(1, 10, 2), 233);
    due("ahead of the list", x.on(1, 9, 2), 0);
    x.event(1, 20, 0, 8);
    due("by the size of the day", x.on(1, 20, 2), 266);
    x.event(0, 40, 2, 333);
    x.event(0, 30, 2, 1);
    x.event(0, 10, 2, 2);
    x.event(0, 9, 2, 900);
    due("a cut ahead of the list's day", x.on(0, 10, 2), 998);
    due("two", x.on(0, 30, 2), 997);
    due("three, by days", x.on(0, 40, 2), 664);
    x.list(40);
    due("a new list: that of its day", x.on(0, 40, 2), 667);
    RateBook y = new RateBook();
    y.house(0, 0, 0, 1, 100000);
    y.event(0, 0, 0, 500);
    y.list(0);
    due("the most", y.on(0, 0, 2), 50000000);
    due("cuts by days, not as told", cutOrder(false), 1);
    due("of one day as told", cutOrder(true), 2);
  }

  /** 15 cut by 600, then 500: 6, 3; 15 cut by 500, then 600: 7, 2. */
  private static int cutOrder(boolean oneDay) {
    RateBook x = new RateBook();
    x.house(0, 0, 0, 10, 15);
    x.list(0);
    x.event(0, oneDay ? 5 : 6, 2, 500);
    x.event(0, 5, 2, 600);
    int got = x.on(0, 6, 2);
    return got == 3 ? 1 : got == 2 ? 2 : 0;
  }

  private static void onCounts() {
    RateBook x = new RateBook();
    x.house(0, 0, 0, 1, 19);
    x.list(0);
    due("full", x.on(0, 0, 3), 19);
    x.event(0, 100, 1, 2);
    due("half, cut", x.on(0, 100, 3), 9);
    x.event(0, 200, 1, 3);
    due("charity, cut", x.on(0, 200, 3), 3);
    x.event(0, 300, 1, 1);
    due("empty, first day", x.on(0, 300, 3), 0);
    due("empty, last day", x.on(0, 389, 3), 0);
    due("empty, half", x.on(0, 390, 3), 9);
    x.event(0, 350, 1, 1);
    due("empty anew", x.on(0, 439, 3), 0);
    due("empty anew, half", x.on(0, 440, 3), 9);
    x.event(0, 400, 0, 2);
    due("a size doesn't begin it anew", x.on(0, 440, 3), 19);
    x.event(0, 420, 1, 0);
    due("full again", x.on(0, 420, 3), 38);
    due("worth is not touched", x.on(0, 300, 2), 19);
  }

  private static void onRelief() {
    int[] counts = {1199, 1200, 1201, 1499, 1500, 1501, 2000};
    int[] behind = {0, 0, 5, 1495, 1500, 1501, 2000};
    for (int i = 0; i < counts.length; i++) {
      RateBook x = new RateBook();
      x.house(0, 0, 0, 1, counts[i]);
      x.list(0);
      due("ahead", x.on(0, 0, 3), counts[i]);
      due("behind " + counts[i], x.on(0, 0, 4), behind[i]);
    }
    RateBook y = oneHouse(260);
    y.event(0, 0, 1, 2);
    due("of what counts, not of the worth", y.on(0, 0, 4), 500);
  }

  private static void year() {
    RateBook x = new RateBook();
    due("no house", x.year(0, 0), BAD);
    x.house(0, 0, 0, 200, 0);
    due("year -1", x.year(0, -1), BAD);
    due("year 10", x.year(0, 10), BAD);
    due("house 1", x.year(1, 0), BAD);
    due("house -1", x.year(-1, 0), BAD);
    due("no list", x.year(0, 0), 0);
    x.list(364);
    due("its last day", x.year(0, 0), 2000);
    due("all days", x.year(0, 1), 730000);
    due("the last year", x.year(0, 9), 730000);
    x.event(0, 730, 0, 300);
    due("not behind its end", x.year(0, 1), 730000);
    due("from its first day", x.year(0, 2), 1095000);
    x.event(0, 729, 0, 160);
    due("on its last day", x.year(0, 1), 364L * 2000 + 1600);
    x.event(0, 1095, 1, 1);
    due("empty", x.year(0, 3), 275L * 1500);
    x.event(0, 1459, 1, 1);
    due("empty anew on the last day", x.year(0, 3), 274L * 1500);
    due("empty into the next year", x.year(0, 4), 276L * 1500);
    x.event(0, 1900, 2, 100);
    due("cut to 2700, half of it 1350, relieved 750", x.year(0, 5), 75L * 1500 + 290L * 750);
    x.rent(0, 100000);
    x.list(2500);
    x.event(0, 2500, 1, 0);
    due("a list within", x.year(0, 6), 310L * 750 + 55L * 150000);
    RateBook y = new RateBook();
    y.house(0, 0, 0, 1, 100000);
    y.event(0, 0, 0, 500);
    y.list(0);
    due("the most", y.year(0, 0), 18250000000L);
  }

  private static void bill() {
    RateBook x = new RateBook();
    due("no house", x.bill(0, 0, 0), BAD);
    x.house(0, 0, 0, 1, 100000);
    x.list(0);
    due("poundage -1", x.bill(0, 0, -1), BAD);
    due("poundage 3001", x.bill(0, 0, 3001), BAD);
    due("year -1", x.bill(0, -1, 0), BAD);
    due("year 10", x.bill(0, 10, 0), BAD);
    due("house 1", x.bill(1, 0, 0), BAD);
    due("house -1", x.bill(-1, 0, 0), BAD);
    due("0", x.bill(0, 0, 0), 0);
    due("1", x.bill(0, 0, 1), 100);
    due("3000", x.bill(0, 0, 3000), 300000);
    x.event(0, 0, 0, 500);
    due("the most", x.bill(0, 0, 3000), 150000000);
    RateBook y = new RateBook();
    y.house(0, 0, 0, 1, 1999);
    y.list(0);
    due("cut", y.bill(0, 0, 1), 1);
    due("cut", y.bill(0, 0, 500), 999);
    y.event(0, 100, 0, 2);
    due("by days", y.bill(0, 0, 1000), (100 * 1999 + 265 * 3998) / 365);
  }

  private static void poundage() {
    RateBook x = new RateBook();
    due("year -1", x.poundage(-1, 0), BAD);
    due("year 10", x.poundage(10, 0), BAD);
    due("needs -1", x.poundage(0, -1), BAD);
    due("needs 100000001", x.poundage(0, 100000001), BAD);
    due("no houses, no needs", x.poundage(0, 0), 0);
    due("no houses", x.poundage(0, 1), NONE);
    x.house(0, 0, 0, 1, 1999);
    x.house(1, 0, 0, 1, 1999);
    x.list(365);
    due("no list yet", x.poundage(0, 1), NONE);
    due("0", x.poundage(1, 0), 0);
    due("each bill is cut", x.poundage(1, 3), 2);
    due("2", x.poundage(1, 2), 1);
    due("the most", x.poundage(1, 11994), 3000);
    due("more than that", x.poundage(1, 11995), NONE);
    due("one below", x.poundage(1, 11990), 2999);
    due("2048", x.poundage(1, 2 * 4093), 2048);
    for (int p = 1; p <= 3000; p += 271) {
      int least = 2 * x.bill(0, 1, p - 1) + 1;
      due("just above what " + (p - 1) + " does", x.poundage(1, least), p);
    }
    due("nothing is struck", x.count(3), 0);
    RateBook y = new RateBook();
    y.house(0, 0, 0, 500, 0);
    y.house(0, 1, 0, 1, 100000);
    y.event(1, 0, 0, 500);
    y.list(0);
    due("the most needs", y.poundage(0, 100000000), 2000);
  }

  private static void struck() {
    RateBook x = new RateBook();
    due("year -1", x.struck(-1, 0), BAD);
    due("year 10", x.struck(10, 0), BAD);
    due("needs -1", x.struck(0, -1), BAD);
    due("needs 100000001", x.struck(0, 100000001), BAD);
    due("none", x.struck(0, 1), NO);
    due("no needs", x.struck(0, 0), 0);
    x.house(0, 0, 0, 1, 2000);
    x.list(0);
    due("still as it was", x.paid(0, 0, 0), NONE);
    due("struck", x.struck(0, 1000), 500);
    due("billed", x.paid(0, 0, 0), 1000);
    x.event(0, 0, 0, 2);
    due("as it was then", x.paid(0, 0, 0), 1000);
    due("as it is now", x.bill(0, 0, 500), 2000);
    due("poundage kept", x.ward(-1, 0, 2), 500);
    due("none", x.struck(0, 100000000), NO);
    due("nothing changed: billed", x.paid(0, 0, 0), 1000);
    due("nothing changed: poundage", x.ward(-1, 0, 2), 500);
    due("nothing changed: needs", x.ward(-1, 0, 3), 1000);
    x.pay(0, 0, 77);
    due("anew", x.struck(0, 1000), 250);
    due("billed anew", x.paid(0, 0, 0), 1000);
    due("what was paid stays", x.paid(0, 0, 1), 77);
    due("anew for less", x.struck(0, 0), 0);
    due("billed 0", x.paid(0, 0, 0), 0);
    due("one year", x.count(3), 1);
    due("the last year", x.struck(9, 12000), 3000);
    due("two years", x.count(3), 2);
  }

  private static void pay() {
    RateBook x = new RateBook();
    due("no house", x.pay(0, 0, 1), BAD);
    x.house(0, 0, 0, 1, 0);
    x.house(0, 0, 0, 1, 0);
    due("year -1", x.pay(0, -1, 1), BAD);
    due("year 10", x.pay(0, 10, 1), BAD);
    due("house 2", x.pay(2, 0, 1), BAD);
    due("house -1", x.pay(-1, 0, 1), BAD);
    due("0", x.pay(0, 0, 0), BAD);
    due("-1", x.pay(0, 0, -1), BAD);
    due("10000001", x.pay(0, 0, 10000001), BAD);
    due("1", x.pay(0, 0, 1), 1);
    due("too much", x.pay(0, 0, 10000000), FULL);
    due("9999999", x.pay(0, 0, 9999999), 10000000);
    due("full", x.pay(0, 0, 1), FULL);
    due("full and wrong", x.pay(0, 0, 0), BAD);
    due("another year", x.pay(0, 9, 10000000), 10000000);
    due("another house", x.pay(1, 0, 5), 5);
    due("another house again", x.pay(1, 0, 6), 11);
    due("kept", x.paid(0, 0, 1), 10000000);
  }

  private static void paid() {
    RateBook x = new RateBook();
    due("no house", x.paid(0, 0, 1), BAD);
    x.house(0, 0, 0, 1, 2000);
    x.list(0);
    due("year -1", x.paid(0, -1, 0), BAD);
    due("year 10", x.paid(0, 10, 0), BAD);
    due("what -1", x.paid(0, 0, -1), BAD);
    due("what 2", x.paid(0, 0, 2), BAD);
    due("house -1", x.paid(-1, 0, 0), BAD);
    due("house 1", x.paid(1, 0, 0), BAD);
    due("not struck", x.paid(0, 0, 0), NONE);
    due("nothing paid", x.paid(0, 0, 1), 0);
    x.struck(0, 500);
    due("billed", x.paid(0, 0, 0), 500);
    due("another year", x.paid(0, 1, 0), NONE);
    x.house(0, 0, 0, 1, 0);
    due("it came later", x.paid(1, 0, 0), NONE);
    x.pay(1, 0, 3);
    due("paid all the same", x.paid(1, 0, 1), 3);
    x.struck(0, 500);
    due("struck anew", x.paid(1, 0, 0), 250);
    due("the first", x.paid(0, 0, 0), 250);
  }

  private static void owed() {
    RateBook x = new RateBook();
    due("no house", x.owed(0, 0), BAD);
    x.house(0, 0, 0, 1, 2000);
    x.list(0);
    due("what -1", x.owed(0, -1), BAD);
    due("what 2", x.owed(0, 2), BAD);
    due("house -1", x.owed(-1, 0), BAD);
    due("house 1", x.owed(1, 0), BAD);
    due("nothing", x.owed(0, 0), 0);
    x.pay(0, 5, 100);
    due("not struck: nothing to give back", x.owed(0, 1), 0);
    x.struck(0, 500);
    x.struck(1, 700);
    due("together", x.owed(0, 0), 1200);
    x.pay(0, 0, 500);
    due("one is paid", x.owed(0, 0), 700);
    x.pay(0, 0, 50);
    due("what is too much is not put against another year", x.owed(0, 0), 700);
    due("but to give back", x.owed(0, 1), 50);
    x.struck(5, 40);
    due("together to give back", x.owed(0, 1), 110);
    x.struck(0, 1000);
    due("struck anew", x.owed(0, 0), 1150);
    due("struck anew, to give back", x.owed(0, 1), 60);
    x.house(0, 0, 0, 1, 0);
    x.pay(1, 0, 9);
    due("it came later", x.owed(1, 0), 0);
    due("it came later, to give back", x.owed(1, 1), 0);
  }

  private static void ward() {
    RateBook x = new RateBook();
    x.house(0, 0, 0, 1, 2000);
    x.house(3, 0, 0, 1, 0);
    x.house(3, 0, 0, 2, 0);
    x.list(0);
    due("ward -2", x.ward(-2, 0, 0), BAD);
    due("ward 4", x.ward(4, 0, 0), BAD);
    due("year -1", x.ward(0, -1, 0), BAD);
    due("year 10", x.ward(0, 10, 0), BAD);
    due("what -1", x.ward(0, 0, -1), BAD);
    due("what 4", x.ward(0, 0, 4), BAD);
    due("not struck", x.ward(0, 0, 0), NO);
    x.pay(1, 0, 10);
    due("paid, not struck", x.ward(3, 0, 1), NO);
    x.struck(0, 799);
    due("all billed", x.ward(-1, 0, 0), 800);
    due("ward 0", x.ward(0, 0, 0), 200);
    due("ward 1", x.ward(1, 0, 0), 0);
    due("ward 3", x.ward(3, 0, 0), 600);
    due("poundage", x.ward(1, 0, 2), 100);
    due("needs", x.ward(-1, 0, 3), 799);
    x.house(0, 0, 0, 1, 0);
    x.pay(3, 0, 7);
    x.pay(3, 1, 1000);
    due("a house that came later is not billed", x.ward(0, 0, 0), 200);
    due("but what it paid is paid", x.ward(0, 0, 1), 7);
    due("all paid", x.ward(-1, 0, 1), 17);
    due("ward 3 paid", x.ward(3, 0, 1), 10);
    due("ward 2 paid", x.ward(2, 0, 1), 0);
    due("another year", x.ward(0, 1, 1), NO);
    x.pay(0, 0, 100);
    due("what the first paid", x.ward(0, 0, 1), 107);
  }

  private static void count() {
    RateBook x = new RateBook();
    due("-1", x.count(-1), BAD);
    due("5", x.count(5), BAD);
    x.house(0, 0, 0, 1, 2000);
    x.house(0, 0, 0, 1, 0);
    x.house(0, 0, 0, 1, 5);
    x.list(0);
    x.list(1);
    x.event(0, 0, 0, 1);
    x.appeal(0, 0, 1, true);
    x.struck(4, 0);
    x.struck(4, 1);
    x.struck(5, 1);
    x.struck(6, 1);
    x.struck(7, 1);
    x.struck(8, 100000000);
    due("houses", x.count(0), 3);
    due("lists", x.count(1), 2);
    due("events", x.count(2), 4);
    due("struck years", x.count(3), 1);
    due("rents", x.count(4), 2);
    x.event(0, 0, 0, 500);
    x.struck(5, 1);
    x.rent(2, 0);
    x.rent(1, 1);
    x.rent(0, 3);
    x.strike(0);
    due("events", x.count(2), 4);
    due("struck years", x.count(3), 2);
    due("rents", x.count(4), 2);
  }
}
