/**
 * Each sentence of promises 1 to 19 that names a boundary, with a test about that sentence alone, on both
 * sides of the boundary. The numbers that 'Terms' bounds (DAYS, YEARS, HOUSES ..) are in TermsEdgesTest.
 */
public final class CallEdgesTest {
  private static final int BAD = -1, NO = -2, FULL = -3, NONE = -4;
  private static final int LEAST = Integer.MIN_VALUE, MOST = Integer.MAX_VALUE;
  private static int wrong = 0;
  private static String sentence = "";

  private static void sentence(String text) {
    sentence = text;
  }

  private static void due(String call, long got, long want) {
    if (got != want) {
      wrong++;
      System.out.println("'" + sentence + "': " + call + " answered " + got + ", due is " + want);
    }
  }

  public static void main(String[] args) {
    newObject(); objectsApart();
    houseNumber();
    rentWas();
    unitWhat(); unitRents(); unitHouse();
    testedLeftOut(); testedWithoutItsOwn(); testedBySteps(); testedMiddle(); testedSize(); testedCut(); testedNow();
    listNumber(); listOfThatDay();
    eventNumber();
    appealOne(); appealLike(); appealLikeFull(); appealAloneFull(); appealGot();
    strikeLatestTold(); strikeLeft(); strikeOfTwelve(); strikeNone();
    onWhat(); onList();
    yearOfTheHouse(); billAsThingsAre(); poundageAsThingsAre();
    struckPoundage(); struckNone();
    paySums(); payInAll(); payByHouseAndYear();
    paidWhat(); paidBilled(); paidPaid();
    owedWhat();
    wardNumbers(); wardWhat(); wardNotStruck(); wardOfTheHouses(); wardPaidByAll(); wardsAgree();
    countWhat(); countHouses(); countLists(); countEvents(); countStruck(); countRents();
    System.out.println(wrong == 0 ? "all answers are as due" : wrong + " answers are not as due");
    if (wrong != 0) System.exit(1);
  }

  /** A house of ward 0, kind 0, street 0, and a list from day 0. */
  private static RateBook one(int size, int rent) {
    RateBook x = new RateBook();
    x.house(0, 0, 0, size, rent);
    x.list(0);
    return x;
  }

  // promise 1

  private static void newObject() {
    sentence("A new object: no HOUSES, LISTS");
    RateBook x = new RateBook();
    due("houses", x.count(0), 0);
    due("lists", x.count(1), 0);
    due("events", x.count(2), 0);
    due("struck years", x.count(3), 0);
    due("rents", x.count(4), 0);
    due("house 0", x.on(0, 0, 0), BAD);
    due("the first house", x.house(0, 0, 0, 1, 0), 0);
    due("no list", x.on(0, 3649, 5), NONE);
    due("the first list, of day 0", x.list(0), 0);
  }

  private static void objectsApart() {
    sentence("A new object: whatever another one holds");
    RateBook x = one(1, 2000);
    x.event(0, 0, 0, 2);
    x.struck(0, 1);
    x.pay(0, 0, 1);
    RateBook y = new RateBook();
    for (int what = 0; what <= 4; what++) due("count " + what, y.count(what), 0);
    y.house(1, 1, 1, 7, 0);
    due("paid", y.paid(0, 0, 1), 0);
    due("not struck", y.ward(-1, 0, 0), NO);
    due("the other one's size", x.on(0, 0, 0), 2);
    due("its own size", y.on(0, 0, 0), 7);
  }

  // promise 2

  private static void houseNumber() {
    sentence("house: A HOUSE: its number");
    RateBook x = new RateBook();
    due("the first", x.house(0, 0, 0, 1, 0), 0);
    due("the second", x.house(0, 0, 0, 1, 0), 1);
    due("a wrong one", x.house(0, 0, 0, 0, 0), BAD);
    due("the third", x.house(0, 0, 0, 1, 0), 2);
  }

  // promise 3

  private static void rentWas() {
    sentence("rent: The RENT becomes known, or is struck (0): what it was (0)");
    RateBook x = one(1, 0);
    due("none, to 7", x.rent(0, 7), 0);
    due("7, to 8", x.rent(0, 8), 7);
    due("8, struck", x.rent(0, 0), 8);
    due("none, struck", x.rent(0, 0), 0);
    due("none, to 1", x.rent(0, 1), 0);
    due("1, to 1", x.rent(0, 1), 1);
    due("known", x.unit(0, 0, 0), 1);
    x.house(0, 0, 0, 1, 100000);
    due("of a house that came with one", x.rent(1, 0), 100000);
    due("the first is as it was", x.rent(0, 1), 1);
  }

  // promise 4

  private static void unitWhat() {
    sentence("unit: 0 above, 1 below, 2 how many RENTS, 3 the HOUSE");
    RateBook x = one(3, 70);
    due("what -1", x.unit(0, 0, -1), BAD);
    due("0", x.unit(0, 0, 0), 70);
    due("1", x.unit(0, 0, 1), 3);
    due("2", x.unit(0, 0, 2), 1);
    due("3", x.unit(0, 0, 3), 0);
    due("what 4", x.unit(0, 0, 4), BAD);
    due("the least number", x.unit(0, 0, LEAST), BAD);
    due("the most", x.unit(0, 0, MOST), BAD);
    due("what -1, no rent", x.unit(1, 0, -1), BAD);
    due("what 4, no rent", x.unit(1, 0, 4), BAD);
  }

  private static void unitRents() {
    sentence("unit: how many RENTS it is the middle of (0: none)");
    RateBook x = new RateBook();
    due("no house", x.unit(0, 0, 2), 0);
    x.house(0, 0, 0, 1, 0);
    due("no rent", x.unit(0, 0, 2), 0);
    x.rent(0, 1);
    due("one", x.unit(0, 0, 2), 1);
    for (int i = 1; i < 40; i++) x.house(0, 0, 0, 1, 1);
    due("all forty", x.unit(0, 0, 2), 40);
    due("all forty of the kind", x.unit(0, 5, 2), 40);
    due("another kind", x.unit(1, 0, 2), 0);
  }

  private static void unitHouse() {
    sentence("unit: the HOUSE (NONE)");
    RateBook x = new RateBook();
    due("no house", x.unit(0, 0, 3), NONE);
    x.house(0, 0, 0, 1, 0);
    due("no rent", x.unit(0, 0, 3), NONE);
    x.rent(0, 1);
    due("house 0", x.unit(0, 0, 3), 0);
    x.rent(0, 0);
    due("struck", x.unit(0, 0, 3), NONE);
    for (int i = 1; i < 40; i++) x.house(0, 0, 0, 1, 0);
    x.rent(39, 1);
    due("house 39", x.unit(0, 0, 3), 39);
  }

  // promise 5

  private static void testedLeftOut() {
    sentence("tested: by THE UNIT of its like, its own RENT left out");
    RateBook x = new RateBook();
    x.house(0, 0, 0, 10, 300);
    x.house(0, 0, 0, 10, 200);
    due("the first by the second", x.tested(0), 200);
    due("the second by the first", x.tested(1), 300);
    due("the unit is as it was", x.unit(0, 0, 0), 200);
    due("the rents are known still", x.count(4), 2);
  }

  private static void testedWithoutItsOwn() {
    sentence("tested: of a HOUSE without a RENT there is none to leave out");
    RateBook x = new RateBook();
    x.house(0, 0, 0, 10, 300);
    x.house(0, 0, 0, 10, 0);
    due("by the first", x.tested(1), 300);
    due("the first by none", x.tested(0), 100);
    x.rent(1, 200);
    due("the first by the second now", x.tested(0), 200);
  }

  private static void testedBySteps() {
    sentence("tested: none in its STREET: of the KIND; none: 10 by 1");
    RateBook x = new RateBook();
    x.house(0, 0, 0, 10, 300);
    due("alone", x.tested(0), 100);
    x.house(0, 1, 0, 10, 700);
    due("another kind does not do", x.tested(0), 100);
    x.house(0, 0, 5, 10, 500);
    due("one of its kind", x.tested(0), 500);
    x.house(0, 0, 0, 10, 400);
    due("one of its street", x.tested(0), 400);
    due("of the kind without its own", x.tested(2), 300);
  }

  private static void testedMiddle() {
    sentence("tested: the middle of the others");
    int[] rents = {10, 20, 30, 40};
    int[] worths = {30, 30, 20, 20};
    RateBook x = new RateBook();
    for (int rent : rents) x.house(0, 0, 0, 1, rent);
    for (int i = 0; i < 4; i++) due("the second of three, without " + rents[i], x.tested(i), worths[i]);
    x.house(0, 0, 0, 1, 50);
    due("the lesser middle of four", x.tested(0), 30);
    due("the lesser middle of four", x.tested(4), 20);
  }

  private static void testedSize() {
    sentence("tested: SIZE that it came with, times that");
    RateBook x = new RateBook();
    x.house(0, 0, 0, 10, 0);
    due("as it came", x.tested(0), 100);
    x.event(0, 0, 0, 20);
    x.event(0, 3649, 0, 500);
    due("with events", x.tested(0), 100);
    x.event(0, 0, 1, 1);
    x.event(0, 0, 2, 900);
    due("with a use and a cut", x.tested(0), 100);
  }

  private static void testedCut() {
    sentence("tested: times that, cut");
    int[] worths = {3, 6, 10, 13};
    RateBook x = new RateBook();
    x.house(0, 0, 0, 3, 10);
    for (int size = 1; size <= 4; size++) {
      x.house(0, 0, 0, size, 0);
      due("size " + size, x.tested(size), worths[size - 1]);
    }
    RateBook y = new RateBook();
    y.house(0, 0, 0, 500, 1);
    y.house(0, 0, 0, 499, 0);
    y.house(0, 0, 0, 500, 0);
    due("a little less than 1", y.tested(1), 0);
    due("just 1", y.tested(2), 1);
  }

  private static void testedNow() {
    sentence("tested: would be worth now");
    RateBook x = new RateBook();
    x.house(0, 0, 0, 10, 0);
    x.house(0, 0, 0, 10, 300);
    due("without a list", x.tested(0), 300);
    x.list(0);
    x.rent(1, 400);
    due("not by the list", x.tested(0), 400);
  }

  // promise 6

  private static void listNumber() {
    sentence("list: its number (from 0)");
    RateBook x = new RateBook();
    due("the first", x.list(10), 0);
    due("refused", x.list(10), NO);
    due("the second", x.list(11), 1);
    due("wrong", x.list(3650), BAD);
    due("the third", x.list(12), 2);
  }

  private static void listOfThatDay() {
    sentence("list: NO: a LIST has that DAY or a later one");
    RateBook x = new RateBook();
    x.list(100);
    due("a later one", x.list(99), NO);
    due("that day", x.list(100), NO);
    due("none", x.list(101), 1);
    due("the last has that day", x.list(101), NO);
    due("the last has a later one", x.list(100), NO);
  }

  // promise 7

  private static void eventNumber() {
    sentence("event: how many EVENTS it has");
    RateBook x = one(1, 0);
    x.house(0, 0, 0, 1, 0);
    due("the first", x.event(0, 9, 0, 1), 1);
    due("the other's first", x.event(1, 9, 0, 1), 1);
    due("the second, of another kind", x.event(0, 5, 1, 1), 2);
    x.appeal(0, 0, 1, true);
    due("the fourth", x.event(0, 9, 2, 1), 4);
    due("the other's third", x.event(1, 9, 2, 1), 3);
    x.strike(0);
    due("the fourth again", x.event(0, 9, 2, 1), 4);
  }

  // promise 8

  private static void appealOne() {
    sentence("appeal: a CUT from a DAY on");
    RateBook x = one(1, 1000);
    x.house(0, 0, 0, 1, 0);
    due("it", x.appeal(1, 50, 300, false), 1);
    due("the day ahead", x.on(1, 49, 2), 1000);
    due("that day", x.on(1, 50, 2), 700);
    due("the last day", x.on(1, 3649, 2), 700);
    due("its like is not cut", x.on(0, 50, 2), 1000);
  }

  private static void appealLike() {
    sentence("appeal: like = true: all LIKE HOUSES too");
    RateBook x = one(1, 1000);
    x.house(1, 0, 0, 2, 0);
    x.house(0, 0, 1, 1, 0);
    x.house(0, 1, 0, 1, 0);
    x.list(10);
    due("it and its like", x.appeal(1, 50, 300, true), 2);
    due("it, the day ahead", x.on(1, 49, 2), 2000);
    due("it", x.on(1, 50, 2), 1400);
    due("its like, the day ahead", x.on(0, 49, 2), 1000);
    due("its like", x.on(0, 50, 2), 700);
    due("another street", x.on(2, 50, 2), 1000);
    due("another kind", x.strike(3), NO);
    x.house(0, 0, 0, 1, 0);
    due("one that came later has none", x.on(4, 50, 2), 1000);
  }

  /** Three like houses and one of another street; one of them has so many events. */
  private static RateBook withEvents(int house, int events) {
    RateBook x = new RateBook();
    for (int i = 0; i < 3; i++) x.house(0, 0, 0, 1, 0);
    x.house(0, 0, 1, 1, 0);
    for (int i = 0; i < events; i++) x.event(house, i, 0, 1);
    return x;
  }

  private static void appealLikeFull() {
    sentence("appeal: if none of these has 12 EVENTS; FULL: one has 12");
    for (int house = 0; house <= 2; house++) {
      due("its like has 11", withEvents(house, 11).appeal(1, 0, 1, true), 3);
      RateBook x = withEvents(house, 12);
      due("its like has 12", x.appeal(1, 0, 1, true), FULL);
      due("none got one", x.count(2), 12);
    }
    due("one of another street has 12", withEvents(3, 12).appeal(1, 0, 1, true), 3);
  }

  private static void appealAloneFull() {
    sentence("appeal: FULL: one has 12: it alone");
    due("it has 11", withEvents(1, 11).appeal(1, 0, 1, false), 1);
    due("it has 12", withEvents(1, 12).appeal(1, 0, 1, false), FULL);
    due("its like ahead has 12", withEvents(0, 12).appeal(1, 0, 1, false), 1);
    due("its like behind has 12", withEvents(2, 12).appeal(1, 0, 1, false), 1);
    RateBook x = withEvents(1, 11);
    due("the 12th", x.appeal(1, 0, 1, false), 1);
    due("the 13th", x.appeal(1, 0, 1, false), FULL);
  }

  private static void appealGot() {
    sentence("appeal: how many HOUSES got one");
    RateBook x = new RateBook();
    for (int i = 1; i <= 40; i++) {
      x.house(i % 4, 2, 5, 1, 0);
      if (i % 13 == 1) due("of " + i, x.appeal(0, 0, 1, true), i);
    }
    due("one alone", x.appeal(39, 0, 1, false), 1);
    due("one without like", one(1, 0).appeal(0, 0, 1, true), 1);
  }

  // promise 9

  private static void strikeLatestTold() {
    sentence("strike: The latest EVENT told of a HOUSE goes");
    RateBook x = one(1, 0);
    x.event(0, 50, 0, 2);
    x.event(0, 70, 0, 3);
    x.event(0, 60, 0, 4);
    x.event(0, 60, 0, 5);
    due("goes", x.strike(0), 3);
    due("of one day the other counts", x.on(0, 60, 0), 4);
    due("goes", x.strike(0), 2);
    due("told latest, not the latest by day", x.on(0, 70, 0), 3);
    due("between", x.on(0, 69, 0), 2);
    due("told again", x.event(0, 10, 0, 6), 3);
    due("goes", x.strike(0), 2);
    due("the first by day went", x.on(0, 10, 0), 1);
    due("the others are left", x.on(0, 50, 0) * 10 + x.on(0, 70, 0), 23);
    RateBook y = one(1, 1000);
    y.house(0, 0, 0, 1, 0);
    y.event(1, 0, 0, 2);
    y.appeal(0, 0, 500, true);
    due("an appeal's cut goes", y.strike(1), 1);
    due("its worth", y.on(1, 0, 2), 2000);
    due("its like is cut still", y.on(0, 0, 2), 500);
  }

  private static void strikeLeft() {
    sentence("strike: how many are left");
    RateBook x = one(1, 0);
    for (int i = 0; i < 12; i++) x.event(0, 100 - i, i % 3, 1);
    for (int left = 11; left >= 0; left--) due("left", x.strike(0), left);
    due("none", x.strike(0), NO);
  }

  private static void strikeOfTwelve() {
    sentence("strike: The latest EVENT told goes: of one with 12 EVENTS");
    int[] latest = {0, 55, 3649};
    for (int day : latest) {
      RateBook x = one(100, 0);
      for (int i = 0; i < 11; i++) x.event(0, 10 * i, 0, 200 + i);
      x.event(0, day, 2, 500);
      due("11 are left", x.strike(0), 11);
      for (int i = 0; i < 11; i++) due("its worth on " + 10 * i, x.on(0, 10 * i, 2), 2000 + 10 * i);
      due("its worth on the last day", x.on(0, 3649, 2), 2100);
      due("a 12th again", x.event(0, 100, 0, 300), 12);
      due("it counts", x.on(0, 100, 0), 300);
      due("a 13th", x.event(0, 100, 0, 300), FULL);
    }
    RateBook y = one(100, 0);
    for (int i = 0; i < 12; i++) y.event(0, 12 - i, 0, 100 + i);
    for (int left = 11; left >= 0; left--) {
      due("left", y.strike(0), left);
      due("the last day", y.on(0, 3649, 0), 100);
      due("the first of those left", y.on(0, 12 - left, 0), 100);
      if (left > 0) due("the first by day", y.on(0, 13 - left, 0), 100 + left - 1);
    }
  }

  private static void strikeNone() {
    sentence("strike: NO: there is none");
    RateBook x = one(1, 0);
    x.house(0, 0, 0, 1, 0);
    due("none was told", x.strike(0), NO);
    x.event(1, 0, 0, 1);
    due("another house has one", x.strike(0), NO);
    x.event(0, 0, 0, 1);
    due("one was told", x.strike(0), 0);
    due("it went", x.strike(0), NO);
    due("the other's is there", x.strike(1), 0);
  }

  // promise 10

  private static void onWhat() {
    sentence("on: 0 its SIZE, 1 its USE, 2 ITS WORTH, 3 ahead of RELIEF, 4 behind it, 5 the LIST");
    RateBook x = one(100, 0);
    x.list(1);
    x.event(0, 1, 0, 250);
    x.event(0, 1, 1, 2);
    int[] answers = {250, 2, 2500, 1250, 250, 1};
    for (int what = 0; what <= 5; what++) due("what " + what, x.on(0, 1, what), answers[what]);
    due("what -1", x.on(0, 1, -1), BAD);
    due("what 6", x.on(0, 1, 6), BAD);
    due("the least number", x.on(0, 1, LEAST), BAD);
    due("the most", x.on(0, 1, MOST), BAD);
  }

  private static void onList() {
    sentence("on: the LIST that stands (NONE)");
    RateBook x = new RateBook();
    x.house(0, 0, 0, 1, 0);
    due("no list", x.on(0, 3649, 5), NONE);
    x.list(100);
    due("ahead of the first", x.on(0, 99, 5), NONE);
    due("the first", x.on(0, 100, 5), 0);
    for (int i = 1; i < 10; i++) x.list(100 + i);
    due("the ninth", x.on(0, 108, 5), 8);
    due("the tenth", x.on(0, 109, 5), 9);
    due("the tenth stands on", x.on(0, 3649, 5), 9);
  }

  // promises 11 to 13

  private static void yearOfTheHouse() {
    sentence("year: ITS YEAR");
    RateBook x = one(1, 1300);
    x.house(0, 0, 0, 2, 0);
    due("of the first: 500 each day", x.year(0, 0), 365 * 500);
    due("of the second: 2600 each day", x.year(1, 0), 365 * 2600);
    x.list(365);
    x.event(0, 365, 0, 2);
    due("the year ahead is as it was", x.year(0, 0), 365 * 500);
    due("the next", x.year(0, 1), 365 * 2600);
  }

  private static void billAsThingsAre() {
    sentence("bill: as things are now");
    RateBook x = one(1, 2000);
    x.struck(0, 1000);
    x.event(0, 0, 0, 2);
    due("now", x.bill(0, 0, 500), 2000);
    due("not by the struck poundage", x.bill(0, 0, 250), 1000);
    x.strike(0);
    due("now again", x.bill(0, 0, 500), 1000);
    due("another year", x.bill(0, 9, 500), 1000);
  }

  private static void poundageAsThingsAre() {
    sentence("poundage: as things are now");
    RateBook x = one(1, 2000);
    x.struck(0, 1000);
    x.event(0, 0, 0, 2);
    due("now", x.poundage(0, 1000), 250);
    due("the struck one is kept", x.ward(-1, 0, 2), 500);
    x.house(0, 0, 0, 2, 0);
    due("with a house more", x.poundage(0, 1000), 125);
    due("asking strikes nothing", x.count(3), 1);
    due("of a year that is not struck", x.poundage(1, 1000), 125);
    due("asking strikes nothing", x.count(3), 1);
    x.strike(0);
    due("without the event", x.poundage(0, 6000), 1000);
  }

  // promise 14

  private static void struckPoundage() {
    sentence("struck: A YEAR is STRUCK for NEEDS: THE POUNDAGE");
    RateBook x = one(1, 2000);
    due("0 for no needs", x.struck(0, 0), 0);
    due("it is struck", x.paid(0, 0, 0), 0);
    due("1 for 1", x.struck(1, 1), 1);
    due("1 for 2", x.struck(2, 2), 1);
    due("2 for 3", x.struck(3, 3), 2);
    due("3000 for 6000", x.struck(4, 6000), 3000);
    due("billed", x.paid(0, 4, 0), 6000);
    due("2999 for 5998", x.struck(5, 5998), 2999);
    due("3000 for 5999", x.struck(6, 5999), 3000);
  }

  private static void struckNone() {
    sentence("struck: NO: there is none");
    RateBook x = one(1, 2000);
    due("6000 is the most", x.struck(0, 6001), NO);
    due("it is not struck", x.count(3), 0);
    due("nothing is billed", x.paid(0, 0, 0), NONE);
    due("6000 does", x.struck(0, 6000), 3000);
    due("anew for more", x.struck(0, 6001), NO);
    due("it is struck as it was", x.ward(-1, 0, 3), 6000);
    RateBook y = new RateBook();
    due("no house, needs of 1", y.struck(0, 1), NO);
    due("no house, no needs", y.struck(0, 0), 0);
  }

  // promise 15

  private static void paySums() {
    sentence("pay: A PAYMENT (1 to 10000000)");
    for (int sum : new int[] {0, -1, 10000001, LEAST, MOST}) {
      RateBook x = one(1, 0);
      due("sum " + sum, x.pay(0, 0, sum), BAD);
      due("nothing is paid", x.paid(0, 0, 1), 0);
    }
    due("sum 1", one(1, 0).pay(0, 0, 1), 1);
    due("sum 10000000", one(1, 0).pay(0, 0, 10000000), 10000000);
  }

  private static void payInAll() {
    sentence("pay: what was paid for that in all; FULL: it would be above 10000000");
    RateBook x = one(1, 0);
    due("the first", x.pay(0, 0, 9999998), 9999998);
    due("3 too many by 1", x.pay(0, 0, 3), FULL);
    due("nothing is added", x.paid(0, 0, 1), 9999998);
    due("1", x.pay(0, 0, 1), 9999999);
    due("2 too many by 1", x.pay(0, 0, 2), FULL);
    due("1", x.pay(0, 0, 1), 10000000);
    due("1 too many", x.pay(0, 0, 1), FULL);
    due("the most too many", x.pay(0, 0, 10000000), FULL);
    due("in all", x.paid(0, 0, 1), 10000000);
  }

  private static void payByHouseAndYear() {
    sentence("pay: for a YEAR: what was paid for that");
    RateBook x = one(1, 0);
    x.house(0, 0, 0, 1, 0);
    x.pay(0, 0, 10000000);
    due("another year", x.pay(0, 1, 10000000), 10000000);
    due("another house", x.pay(1, 0, 5), 5);
    due("another house and year", x.pay(1, 1, 6), 6);
    due("the first", x.paid(0, 0, 1), 10000000);
    x.struck(1, 0);
    due("of a struck year", x.pay(1, 1, 1), 7);
  }

  // promise 16

  private static void paidWhat() {
    sentence("paid: 0 what was BILLED, 1 what was paid");
    RateBook x = one(1, 2000);
    x.struck(0, 10);
    x.pay(0, 0, 4);
    due("what -1", x.paid(0, 0, -1), BAD);
    due("what 0", x.paid(0, 0, 0), 10);
    due("what 1", x.paid(0, 0, 1), 4);
    due("what 2", x.paid(0, 0, 2), BAD);
    due("the least number", x.paid(0, 0, LEAST), BAD);
    due("the most", x.paid(0, 0, MOST), BAD);
  }

  private static void paidBilled() {
    sentence("paid: what was BILLED (NONE: it is not STRUCK, or the HOUSE came later)");
    RateBook x = one(1, 2000);
    x.house(0, 0, 1, 1, 0);
    due("not struck", x.paid(0, 3, 0), NONE);
    x.event(1, 0, 1, 1);
    x.struck(3, 0);
    due("billed 0", x.paid(0, 3, 0), 0);
    due("the year ahead is not struck", x.paid(0, 2, 0), NONE);
    due("the next is not struck", x.paid(0, 4, 0), NONE);
    x.house(0, 0, 0, 1, 0);
    due("the house that came ahead of it", x.paid(1, 3, 0), 0);
    due("the house that came later", x.paid(2, 3, 0), NONE);
    x.pay(2, 3, 1);
    due("though it paid", x.paid(2, 3, 0), NONE);
    x.struck(3, 0);
    due("struck anew", x.paid(2, 3, 0), 0);
  }

  private static void paidPaid() {
    sentence("paid: what was paid");
    RateBook x = one(1, 2000);
    due("nothing", x.paid(0, 0, 1), 0);
    x.pay(0, 0, 3);
    due("not struck", x.paid(0, 0, 1), 3);
    x.struck(0, 0);
    due("struck", x.paid(0, 0, 1), 3);
    x.pay(0, 0, 4);
    due("more", x.paid(0, 0, 1), 7);
    due("another year", x.paid(0, 1, 1), 0);
  }

  // promise 17

  private static void owedWhat() {
    sentence("owed: ARREARS (what = 0), TO GIVE BACK (1)");
    RateBook x = one(1, 2000);
    x.struck(0, 10);
    x.struck(1, 10);
    x.pay(0, 0, 3);
    x.pay(0, 1, 12);
    due("what -1", x.owed(0, -1), BAD);
    due("what 0", x.owed(0, 0), 7);
    due("what 1", x.owed(0, 1), 2);
    due("what 2", x.owed(0, 2), BAD);
    due("the least number", x.owed(0, LEAST), BAD);
    due("the most", x.owed(0, MOST), BAD);
  }

  // promise 18

  private static void wardNumbers() {
    sentence("ward: Of a WARD (-1: all)");
    RateBook x = new RateBook();
    for (int ward = 0; ward <= 3; ward++) x.house(ward, 0, 0, 1, 2000);
    x.list(0);
    x.struck(0, 8);
    due("ward -2", x.ward(-2, 0, 0), BAD);
    due("all", x.ward(-1, 0, 0), 8);
    for (int ward = 0; ward <= 3; ward++) due("ward " + ward, x.ward(ward, 0, 0), 2);
    due("ward 4", x.ward(4, 0, 0), BAD);
    due("the least number", x.ward(LEAST, 0, 0), BAD);
    due("the most", x.ward(MOST, 0, 0), BAD);
    due("ward -2: its poundage", x.ward(-2, 0, 2), BAD);
    due("ward 4: its needs", x.ward(4, 0, 3), BAD);
  }

  private static void wardWhat() {
    sentence("ward: 0 what was BILLED, 1 what was paid, 2 THE POUNDAGE, 3 NEEDS");
    RateBook x = one(1, 2000);
    x.struck(0, 9);
    x.pay(0, 0, 4);
    int[] answers = {10, 4, 5, 9};
    due("what -1", x.ward(0, 0, -1), BAD);
    for (int what = 0; what <= 3; what++) due("what " + what, x.ward(0, 0, what), answers[what]);
    for (int what = 0; what <= 3; what++) due("all, what " + what, x.ward(-1, 0, what), answers[what]);
    due("what 4", x.ward(0, 0, 4), BAD);
    due("the least number", x.ward(0, 0, LEAST), BAD);
    due("the most", x.ward(0, 0, MOST), BAD);
    due("a ward without houses: poundage", x.ward(3, 0, 2), 5);
    due("a ward without houses: needs", x.ward(3, 0, 3), 9);
  }

  private static void wardNotStruck() {
    sentence("ward: NO: it is not STRUCK");
    RateBook x = one(1, 2000);
    x.pay(0, 4, 5);
    for (int what = 0; what <= 3; what++) due("not struck, what " + what, x.ward(0, 4, what), NO);
    due("not struck, all", x.ward(-1, 4, 0), NO);
    x.struck(4, 0);
    due("struck: needs", x.ward(0, 4, 3), 0);
    due("struck: billed", x.ward(-1, 4, 0), 0);
    due("struck: paid", x.ward(0, 4, 1), 5);
    due("the year ahead", x.ward(0, 3, 0), NO);
    due("the next year", x.ward(0, 5, 0), NO);
  }

  private static void wardOfTheHouses() {
    sentence("ward: what was BILLED: of its HOUSES");
    RateBook x = new RateBook();
    x.house(1, 0, 0, 1, 2000);
    x.house(3, 0, 0, 2, 0);
    x.house(1, 0, 0, 3, 0);
    x.list(0);
    x.struck(0, 12);
    due("ward 0: no house", x.ward(0, 0, 0), 0);
    due("ward 1: two", x.ward(1, 0, 0), 8);
    due("ward 2: no house", x.ward(2, 0, 0), 0);
    due("ward 3: one", x.ward(3, 0, 0), 4);
    x.house(2, 0, 0, 3, 0);
    due("ward 2: one that came later", x.ward(2, 0, 0), 0);
    due("all", x.ward(-1, 0, 0), 12);
  }

  private static void wardPaidByAll() {
    sentence("ward: what was paid (by all HOUSES there are)");
    RateBook x = one(1, 2000);
    x.pay(0, 0, 1);
    x.struck(0, 0);
    x.pay(0, 0, 10);
    due("ahead of it and behind it", x.ward(0, 0, 1), 11);
    x.house(0, 0, 0, 1, 0);
    x.house(2, 0, 0, 1, 0);
    x.pay(1, 0, 100);
    x.pay(2, 0, 1000);
    x.pay(2, 1, 5);
    due("with one that came later", x.ward(0, 0, 1), 111);
    due("another ward", x.ward(2, 0, 1), 1000);
    due("all", x.ward(-1, 0, 1), 1111);
    due("a ward without houses", x.ward(3, 0, 1), 0);
    RateBook y = new RateBook();
    for (int i = 0; i < 40; i++) y.house(0, 0, 0, 1, 0);
    for (int i = 0; i < 40; i++) y.pay(i, 9, 10000000);
    y.struck(9, 0);
    due("the most of a ward", y.ward(0, 9, 1), 400000000);
    due("the most of all", y.ward(-1, 9, 1), 400000000);
  }

  private static void wardsAgree() {
    sentence("wards agree with the whole");
    RateBook x = new RateBook();
    for (int i = 0; i < 40; i++) x.house(i * 7 % 4, i % 3, i % 6, 1 + i, i % 2 == 0 ? 0 : 1000 + 37 * i);
    x.list(0);
    for (int i = 0; i < 40; i++) x.pay(i, 2, 1 + i * i);
    x.struck(2, 4321);
    for (int what = 0; what <= 1; what++) {
      int together = 0;
      for (int ward = 0; ward <= 3; ward++) together += x.ward(ward, 2, what);
      due("all, what " + what, x.ward(-1, 2, what), together);
    }
    int billed = 0;
    for (int i = 0; i < 40; i++) billed += x.paid(i, 2, 0);
    due("all houses", x.ward(-1, 2, 0), billed);
  }

  // promise 19

  private static void countWhat() {
    sentence("count: 0 HOUSES, 1 LISTS, 2 EVENTS of all, 3 STRUCK YEARS, 4 RENTS known");
    RateBook x = new RateBook();
    for (int i = 0; i < 5; i++) x.house(0, 0, 0, 1, i == 0 ? 7 : 0);
    for (int i = 0; i < 4; i++) x.list(i);
    for (int i = 0; i < 3; i++) x.event(i, 0, 0, 1);
    for (int i = 0; i < 2; i++) x.struck(i, 0);
    for (int what = 0; what <= 4; what++) due("what " + what, x.count(what), 5 - what);
    due("what -1", x.count(-1), BAD);
    due("what 5", x.count(5), BAD);
    due("the least number", x.count(LEAST), BAD);
    due("the most", x.count(MOST), BAD);
  }

  private static void countHouses() {
    sentence("count: HOUSES");
    RateBook x = new RateBook();
    for (int i = 0; i < 40; i++) {
      due("ahead of house " + i, x.count(0), i);
      x.house(0, 0, 0, 1, 0);
    }
    due("forty", x.count(0), 40);
    x.house(0, 0, 0, 1, 0);
    due("no more", x.count(0), 40);
  }

  private static void countLists() {
    sentence("count: LISTS");
    RateBook x = new RateBook();
    for (int i = 0; i < 10; i++) {
      due("ahead of list " + i, x.count(1), i);
      x.list(3640 + i);
    }
    due("ten", x.count(1), 10);
    x.list(3649);
    due("no more", x.count(1), 10);
  }

  private static void countEvents() {
    sentence("count: EVENTS of all");
    RateBook x = new RateBook();
    for (int i = 0; i < 40; i++) x.house(0, 0, 0, 1, 0);
    for (int i = 1; i <= 12; i++) {
      x.appeal(i, i, 1, true);
      due("of forty", x.count(2), 40 * i);
    }
    x.event(39, 0, 0, 1);
    due("no more", x.count(2), 480);
    x.strike(39);
    due("one less", x.count(2), 479);
  }

  private static void countStruck() {
    sentence("count: STRUCK YEARS");
    RateBook x = one(1, 2000);
    for (int y = 0; y <= 9; y++) {
      due("ahead of year " + y, x.count(3), y);
      x.struck(9 - y, y);
    }
    due("ten", x.count(3), 10);
    x.struck(4, 0);
    due("anew", x.count(3), 10);
  }

  private static void countRents() {
    sentence("count: RENTS known");
    RateBook x = one(1, 0);
    due("none", x.count(4), 0);
    x.rent(0, 1);
    due("one", x.count(4), 1);
    x.rent(0, 2);
    due("one still", x.count(4), 1);
    x.rent(0, 0);
    due("none again", x.count(4), 0);
    for (int i = 1; i < 40; i++) x.house(i % 4, i % 3, i % 6, 1, 100000);
    due("thirty-nine", x.count(4), 39);
    x.rent(0, 100000);
    due("forty", x.count(4), 40);
  }
}
