/**
 * Each sentence of 'Terms' (sections 1 to 3 of the document) that names a boundary, with a test about
 * that sentence alone, on both sides of the boundary. What is refused stands in RefusedTest too.
 */
public final class TermsEdgesTest {
  private static final int BAD = -1, NO = -2, FULL = -3, NONE = -4;
  private static final int LEAST = Integer.MIN_VALUE, MOST = Integer.MAX_VALUE;
  private static int wrong = 0;
  private static String sentence = "";

  private static void sentence(String text) {
    sentence = text;
  }

  private static void due(String call, long got, long want) {
    if (got != want) {
      wrong++;
      System.out.println("'" + sentence + "': " + call + " answered " + got + ", due is " + want);
    }
  }

  public static void main(String[] args) {
    lists(); daysOfEvents(); daysOfAppeals(); daysAskedOf();
    years(); yearsOfBills(); yearsOfPoundages(); yearsStruck(); yearsOfPayments(); yearsOfWhatIsPaid(); yearsOfWards();
    daysOfAYear(); calls();
    housesAsTheyCome(); mostHouses(); wards(); kinds(); streets(); sizes(); rents(); like();
    unitOfThoseWithARent(); unitOfRentsKnownNow(); unitBySizesThatTheyCameWith(); unitOfAnOddNumber();
    unitOfAnEvenNumber(); unitOfLikeFractions(); unitOfTheKind(); unitWithoutAny(); unitAsItIs();
    mostLists(); listDays(); listUnits(); listStands();
    mostEvents(); eventSizes(); eventUses(); eventCuts(); eventKinds(); eventFromADay();
    latestByDay(); ofOneDayToldLast(); withoutOne(); ofAnyDay();
    worthWithoutAList(); worthIsCut(); cutNotBehind(); cutNotAheadOfTheList(); cutsByDays(); cutsOfOneDay(); cutsAreCut();
    worthDoesNotWrap();
    countsFull(); countsEmpty(); countsEmptySince(); countsEmptyBehind(); countsHalf(); countsCharity();
    reliefNothing(); reliefFiveTimes(); reliefAll(); reliefWithoutAJump(); reliefOfWhatCounts();
    yearIsTheSum(); yearDoesNotWrap(); billPoundages(); billIsCut(); billDoesNotWrap();
    poundageIsTheLeast(); poundageOfCutBills(); poundageNone(); poundageNeeds(); poundageDoesNotWrap();
    struckIsKept(); struckAnew(); arrears(); toGiveBack(); owedOfStruckYears(); owedWhereBilled(); owedTogether();
    System.out.println(wrong == 0 ? "all answers are as due" : wrong + " answers are not as due");
    if (wrong != 0) System.exit(1);
  }

  /** A house of ward 0, kind 0, street 0, and a list from day 0. */
  private static RateBook one(int size, int rent) {
    RateBook x = new RateBook();
    x.house(0, 0, 0, size, rent);
    x.list(0);
    return x;
  }

  // ==== 1

  private static void lists() {
    sentence("DAYS are 0 to 3649: of a LIST");
    due("-1", new RateBook().list(-1), BAD);
    due("0", new RateBook().list(0), 0);
    due("3649", new RateBook().list(3649), 0);
    due("3650", new RateBook().list(3650), BAD);
    due("the least number", new RateBook().list(LEAST), BAD);
    due("the most", new RateBook().list(MOST), BAD);
  }

  private static void daysOfEvents() {
    sentence("DAYS are 0 to 3649: of an EVENT");
    for (int kind = 0; kind <= 2; kind++) {
      due("-1", one(1, 0).event(0, -1, kind, 1), BAD);
      due("0", one(1, 0).event(0, 0, kind, 1), 1);
      due("3649", one(1, 0).event(0, 3649, kind, 1), 1);
      due("3650", one(1, 0).event(0, 3650, kind, 1), BAD);
      due("the least number", one(1, 0).event(0, LEAST, kind, 1), BAD);
      due("the most", one(1, 0).event(0, MOST, kind, 1), BAD);
    }
  }

  private static void daysOfAppeals() {
    sentence("DAYS are 0 to 3649: of an appeal");
    for (int like = 0; like <= 1; like++) {
      due("-1", one(1, 0).appeal(0, -1, 1, like == 1), BAD);
      due("0", one(1, 0).appeal(0, 0, 1, like == 1), 1);
      due("3649", one(1, 0).appeal(0, 3649, 1, like == 1), 1);
      due("3650", one(1, 0).appeal(0, 3650, 1, like == 1), BAD);
      due("the least number", one(1, 0).appeal(0, LEAST, 1, like == 1), BAD);
      due("the most", one(1, 0).appeal(0, MOST, 1, like == 1), BAD);
    }
  }

  private static void daysAskedOf() {
    sentence("DAYS are 0 to 3649: of on()");
    RateBook x = one(200, 0);
    int[] answers = {200, 0, 2000, 2000, 2000, 0};
    for (int what = 0; what <= 5; what++) {
      due("-1", x.on(0, -1, what), BAD);
      due("0", x.on(0, 0, what), answers[what]);
      due("3649", x.on(0, 3649, what), answers[what]);
      due("3650", x.on(0, 3650, what), BAD);
      due("the least number", x.on(0, LEAST, what), BAD);
      due("the most", x.on(0, MOST, what), BAD);
    }
  }

  private static final int[] NO_YEARS = {-1, 10, LEAST, MOST};

  private static void years() {
    sentence("YEAR y (0 to 9): of year()");
    RateBook x = one(200, 0);
    for (int y : NO_YEARS) due("year " + y, x.year(0, y), BAD);
    for (int y = 0; y <= 9; y++) due("year " + y, x.year(0, y), 730000);
  }

  private static void yearsOfBills() {
    sentence("YEAR y (0 to 9): of bill()");
    RateBook x = one(200, 0);
    for (int y : NO_YEARS) due("year " + y, x.bill(0, y, 1000), BAD);
    for (int y = 0; y <= 9; y++) due("year " + y, x.bill(0, y, 1000), 2000);
  }

  private static void yearsOfPoundages() {
    sentence("YEAR y (0 to 9): of poundage()");
    RateBook x = one(200, 0);
    for (int y : NO_YEARS) due("year " + y, x.poundage(y, 0), BAD);
    for (int y = 0; y <= 9; y++) due("year " + y, x.poundage(y, 2000), 1000);
  }

  private static void yearsStruck() {
    sentence("YEAR y (0 to 9): of struck()");
    RateBook x = one(200, 0);
    for (int y : NO_YEARS) due("year " + y, x.struck(y, 0), BAD);
    due("nothing is STRUCK", x.count(3), 0);
    for (int y = 0; y <= 9; y++) due("year " + y, x.struck(y, 2000), 1000);
    due("all are STRUCK", x.count(3), 10);
  }

  private static void yearsOfPayments() {
    sentence("YEAR y (0 to 9): of pay()");
    RateBook x = one(200, 0);
    for (int y : NO_YEARS) due("year " + y, x.pay(0, y, 1), BAD);
    for (int y = 0; y <= 9; y++) due("year " + y, x.pay(0, y, y + 1), y + 1);
    for (int y = 0; y <= 9; y++) due("year " + y + " again", x.pay(0, y, 1), y + 2);
  }

  private static void yearsOfWhatIsPaid() {
    sentence("YEAR y (0 to 9): of paid()");
    RateBook x = one(200, 0);
    for (int y : NO_YEARS) due("billed in year " + y, x.paid(0, y, 0), BAD);
    for (int y : NO_YEARS) due("paid in year " + y, x.paid(0, y, 1), BAD);
    for (int y = 0; y <= 9; y++) due("billed in year " + y, x.paid(0, y, 0), NONE);
    for (int y = 0; y <= 9; y++) due("paid in year " + y, x.paid(0, y, 1), 0);
  }

  private static void yearsOfWards() {
    sentence("YEAR y (0 to 9): of ward()");
    RateBook x = one(200, 0);
    for (int y = 0; y <= 9; y++) x.struck(y, y);
    for (int y : NO_YEARS) due("year " + y, x.ward(-1, y, 3), BAD);
    for (int y = 0; y <= 9; y++) due("year " + y, x.ward(-1, y, 3), y);
  }

  /** A house that counts 2000 on one DAY alone. */
  private static RateBook onOneDay(int day) {
    RateBook x = one(1, 0);
    x.event(0, day, 0, 200);
    if (day < 3649) x.event(0, day + 1, 0, 1);
    return x;
  }

  private static void daysOfAYear() {
    sentence("YEAR y has DAYS 365 y to 365 y + 364");
    for (int y = 0; y <= 9; y++) {
      due("the first day of year " + y, onOneDay(365 * y).year(0, y), 2000);
      due("the last day of year " + y, onOneDay(365 * y + 364).year(0, y), 2000);
      if (y > 0) due("the day ahead of year " + y, onOneDay(365 * y - 1).year(0, y), 0);
      if (y < 9) due("the day behind year " + y, onOneDay(365 * y + 365).year(0, y), 0);
    }
  }

  private static void calls() {
    sentence("An object is used for at most 512 calls");
    RateBook x = one(10, 0);
    for (int call = 3; call <= 510; call += 2) {
      due("call " + call, x.event(0, call, 0, 200), 1);
      due("call " + (call + 1), x.strike(0), 0);
    }
    due("call 511", x.event(0, 0, 0, 200), 1);
    due("call 512", x.year(0, 9), 730000);
    RateBook y = new RateBook();
    for (int call = 1; call <= 512; call++) due("call " + call, y.house(0, 0, 0, 1, 1), call <= 40 ? call - 1 : FULL);
  }

  // Terms

  /** What each call that takes a HOUSE answers of the one, which is of SIZE 200 and without a RENT. */
  private static final long[] OF_THE_HOUSE = {0, 2000, 1, 1, 1, 200, 730000, 2000, 5, 0, 0};

  private static long ofHouse(RateBook x, int call, int house) {
    switch (call) {
      case 0: return x.rent(house, 5);
      case 1: return x.tested(house);
      case 2: return x.event(house, 0, 0, 7);
      case 3: return x.appeal(house, 0, 7, false);
      case 4: return x.appeal(house, 0, 7, true);
      case 5: return x.on(house, 0, 0);
      case 6: return x.year(house, 0);
      case 7: return x.bill(house, 0, 1000);
      case 8: return x.pay(house, 0, 5);
      case 9: return x.paid(house, 0, 1);
      default: return x.owed(house, 0);
    }
  }

  private static void housesAsTheyCome() {
    sentence("HOUSES 0, 1, .. as they come");
    for (int call = 0; call < OF_THE_HOUSE.length; call++) {
      due("call " + call + " of house 0", ofHouse(one(200, 0), call, 0), OF_THE_HOUSE[call]);
      due("call " + call + " of house 0, ahead of it", ofHouse(new RateBook(), call, 0), BAD);
      for (int house : new int[] {-1, 1, 39, 40, LEAST, MOST}) {
        due("call " + call + " of house " + house, ofHouse(one(200, 0), call, house), BAD);
      }
    }
    due("strike(0), ahead of it", new RateBook().strike(0), BAD);
    for (int house : new int[] {-1, 1, 39, 40, LEAST, MOST}) due("strike", one(200, 0).strike(house), BAD);
    RateBook x = new RateBook();
    for (int i = 0; i < 40; i++) {
      due("not here yet: " + i, x.on(i, 0, 0), BAD);
      due("comes", x.house(i % 4, i % 3, i % 6, 100 + i, 0), i);
      due("is here: " + i, x.on(i, 0, 0), 100 + i);
    }
    due("the last event", x.event(39, 0, 0, 1), 1);
    due("the last strike", x.strike(39), 0);
    due("house 40", x.on(40, 0, 0), BAD);
  }

  private static void mostHouses() {
    sentence("HOUSES, 40 at most");
    RateBook x = new RateBook();
    for (int i = 0; i < 39; i++) x.house(0, 0, 0, 1, 0);
    due("the 40th", x.house(0, 0, 0, 1, 0), 39);
    due("the 41st", x.house(0, 0, 0, 1, 0), FULL);
    due("how many", x.count(0), 40);
  }

  private static void wards() {
    sentence("a WARD (0 to 3)");
    for (int ward : new int[] {-1, 4, LEAST, MOST}) due("ward " + ward, new RateBook().house(ward, 0, 0, 1, 0), BAD);
    for (int ward = 0; ward <= 3; ward++) {
      RateBook x = new RateBook();
      due("ward " + ward, x.house(ward, 0, 0, 1, 0), 0);
      x.struck(0, 0);
      x.pay(0, 0, 7);
      for (int w = 0; w <= 3; w++) due("paid in ward " + w, x.ward(w, 0, 1), w == ward ? 7 : 0);
    }
  }

  private static void kinds() {
    sentence("a KIND (0 to 2)");
    for (int kind : new int[] {-1, 3, LEAST, MOST}) {
      due("house of kind " + kind, new RateBook().house(0, kind, 0, 1, 0), BAD);
      for (int what = 0; what <= 3; what++) due("unit of kind " + kind, new RateBook().unit(kind, 0, what), BAD);
    }
    for (int kind = 0; kind <= 2; kind++) {
      RateBook x = new RateBook();
      due("house of kind " + kind, x.house(0, kind, 0, 1, 33), 0);
      for (int k = 0; k <= 2; k++) due("unit of kind " + k, x.unit(k, 0, 0), k == kind ? 33 : 10);
    }
  }

  private static void streets() {
    sentence("a STREET (0 to 5)");
    for (int street : new int[] {-1, 6, LEAST, MOST}) {
      due("house of street " + street, new RateBook().house(0, 0, street, 1, 0), BAD);
      for (int what = 0; what <= 3; what++) due("unit of street " + street, new RateBook().unit(0, street, what), BAD);
    }
    for (int street = 0; street <= 5; street++) {
      RateBook x = new RateBook();
      due("house of street " + street, x.house(0, 0, street, 1, 33), 0);
      x.house(0, 0, (street + 1) % 6, 1, 22);
      due("unit of street " + street, x.unit(0, street, 0), 33);
      due("unit of the next", x.unit(0, (street + 1) % 6, 0), 22);
    }
  }

  private static void sizes() {
    sentence("a SIZE (1 to 500)");
    RateBook x = new RateBook();
    for (int size : new int[] {0, -1, 501, LEAST, MOST}) due("size " + size, x.house(0, 0, 0, size, 0), BAD);
    due("none came", x.count(0), 0);
    due("size 1", x.house(0, 0, 0, 1, 0), 0);
    due("size 500", x.house(0, 0, 0, 500, 0), 1);
    due("it is 1", x.on(0, 0, 0), 1);
    due("it is 500", x.on(1, 0, 0), 500);
  }

  private static void rents() {
    sentence("a RENT (1 to 100000) or none that is known");
    RateBook x = new RateBook();
    for (int rent : new int[] {-1, 100001, LEAST, MOST}) due("house of rent " + rent, x.house(0, 0, 0, 1, rent), BAD);
    due("none came", x.count(0), 0);
    due("house of rent 0", x.house(0, 0, 0, 1, 0), 0);
    due("none is known", x.count(4), 0);
    due("house of rent 1", x.house(0, 0, 0, 1, 1), 1);
    due("one is known", x.count(4), 1);
    due("house of rent 100000", x.house(0, 0, 0, 1, 100000), 2);
    due("two are known", x.count(4), 2);
    for (int rent : new int[] {-1, 100001, LEAST, MOST}) due("rent " + rent, x.rent(0, rent), BAD);
    due("rent 100000", x.rent(0, 100000), 0);
    due("rent 1", x.rent(0, 1), 100000);
    due("rent 0", x.rent(0, 0), 1);
    due("it is none", x.rent(0, 0), 0);
  }

  private static void like() {
    sentence("LIKE are HOUSES of one KIND and STREET");
    RateBook x = new RateBook();
    x.house(0, 1, 1, 1, 0);
    x.house(3, 1, 1, 500, 9);
    x.house(0, 1, 2, 1, 0);
    x.house(0, 2, 1, 1, 0);
    due("of one kind and street, of another ward, size and rent", x.appeal(0, 0, 1, true), 2);
    due("it has one event", x.strike(0), 0);
    due("that like it has one", x.strike(1), 0);
    due("that of another street has none", x.strike(2), NO);
    due("that of another kind has none", x.strike(3), NO);
  }

  private static void unitOfThoseWithARent() {
    sentence("THE UNIT: of all HOUSES of these with a RENT");
    RateBook x = new RateBook();
    x.house(0, 0, 0, 10, 100);
    x.house(0, 0, 0, 10, 0);
    due("one without", x.unit(0, 0, 2), 1);
    due("the house with", x.unit(0, 0, 3), 0);
    x.house(0, 0, 0, 10, 1);
    due("one with the least", x.unit(0, 0, 2), 2);
    due("which is the lesser", x.unit(0, 0, 3), 2);
  }

  private static void unitOfRentsKnownNow() {
    sentence("THE UNIT: with a RENT (as it is known now)");
    RateBook x = new RateBook();
    x.house(0, 0, 0, 10, 100);
    x.house(0, 0, 0, 10, 200);
    due("as they came", x.unit(0, 0, 0), 100);
    x.rent(0, 201);
    due("the other is the lesser now", x.unit(0, 0, 0), 200);
    x.rent(1, 0);
    due("one is struck", x.unit(0, 0, 0), 201);
    due("one rent", x.unit(0, 0, 2), 1);
    x.rent(1, 3);
    due("known again", x.unit(0, 0, 0), 3);
  }

  private static void unitBySizesThatTheyCameWith() {
    sentence("THE UNIT: RENT by the SIZE that it came with");
    RateBook x = new RateBook();
    x.house(0, 0, 0, 10, 100);
    x.house(0, 0, 0, 10, 90);
    x.event(0, 0, 0, 500);
    x.event(1, 0, 0, 1);
    due("9 is the lesser", x.unit(0, 0, 3), 1);
    due("below", x.unit(0, 0, 1), 10);
  }

  private static void unitOfAnOddNumber() {
    sentence("THE UNIT: the middle one");
    int[] rents = {50, 10, 30, 20, 40};
    int[] house = {0, -1, 2, -1, 2};
    RateBook x = new RateBook();
    for (int i = 0; i < 5; i++) {
      x.house(0, 0, 0, 1, rents[i]);
      if (house[i] >= 0) due("of " + (i + 1), x.unit(0, 0, 3), house[i]);
      due("how many", x.unit(0, 0, 2), i + 1);
    }
    RateBook y = new RateBook();
    for (int i = 0; i < 39; i++) y.house(0, 0, 0, 1, 1 + i * 7 % 39);
    due("of 39: the 20th", y.unit(0, 0, 0), 20);
  }

  private static void unitOfAnEvenNumber() {
    sentence("THE UNIT: of an even number the lesser middle one");
    RateBook x = new RateBook();
    x.house(0, 0, 0, 1, 50);
    x.house(0, 0, 0, 1, 10);
    due("of 2: the lesser", x.unit(0, 0, 3), 1);
    x.house(0, 0, 0, 1, 30);
    x.house(0, 0, 0, 1, 20);
    due("of 4: the second", x.unit(0, 0, 3), 3);
    x.house(0, 0, 0, 1, 25);
    due("of 5: the third", x.unit(0, 0, 3), 4);
    RateBook y = new RateBook();
    for (int i = 0; i < 40; i++) y.house(0, 0, 0, 1, 1 + i * 7 % 40);
    due("of 40: the 20th", y.unit(0, 0, 0), 20);
    due("how many", y.unit(0, 0, 2), 40);
  }

  private static int unitHouse(int... sizesAndRents) {
    RateBook x = new RateBook();
    for (int i = 0; i < sizesAndRents.length; i += 2) x.house(0, 0, 0, sizesAndRents[i], sizesAndRents[i + 1]);
    return x.unit(0, 0, 3);
  }

  private static void unitOfLikeFractions() {
    sentence("THE UNIT: of like fractions those of lower numbers are less");
    due("two alike", unitHouse(20, 300, 10, 150), 0);
    due("two alike, the other way", unitHouse(10, 150, 20, 300), 0);
    due("three alike", unitHouse(10, 150, 20, 300, 30, 450), 1);
    due("four alike", unitHouse(40, 600, 10, 150, 20, 300, 30, 450), 1);
    due("a lesser one ahead of three alike", unitHouse(10, 150, 20, 300, 30, 450, 1, 1), 0);
    due("the second is a little less", unitHouse(20, 300, 10, 149), 1);
    due("the second is a little more", unitHouse(20, 300, 10, 151), 0);
    due("not alike though both are 3 when cut", unitHouse(3, 11, 3, 10), 1);
    due("apart by 1 by 249500", unitHouse(499, 99302, 500, 99501), 1);
    due("apart by 1 by 249500, the other way", unitHouse(500, 99501, 499, 99302), 0);
    due("least and most", unitHouse(1, 100000, 500, 1), 1);
  }

  private static void unitOfTheKind() {
    sentence("THE UNIT: if there is none, of the KIND in all STREETS");
    RateBook x = new RateBook();
    x.house(0, 1, 0, 10, 200);
    x.house(0, 1, 5, 10, 100);
    x.house(0, 1, 3, 10, 0);
    x.house(0, 2, 3, 10, 1);
    due("none in the street", x.unit(1, 3, 3), 1);
    due("of how many", x.unit(1, 3, 2), 2);
    due("above", x.unit(1, 3, 0), 100);
    due("a street without houses", x.unit(1, 1, 3), 1);
    due("a street with one rent", x.unit(1, 0, 3), 0);
    due("of how many", x.unit(1, 0, 2), 1);
    x.rent(2, 9);
    due("one in the street now", x.unit(1, 3, 3), 2);
    due("of how many", x.unit(1, 3, 2), 1);
    due("all streets now: of how many", x.unit(1, 1, 2), 3);
    x.rent(2, 0);
    due("none again", x.unit(1, 3, 3), 1);
  }

  private static void unitWithoutAny() {
    sentence("THE UNIT: if there is none, 10 by 1");
    RateBook x = new RateBook();
    int[] none = {10, 1, 0, NONE};
    for (int what = 0; what <= 3; what++) due("no house: " + what, x.unit(0, 0, what), none[what]);
    x.house(0, 0, 0, 7, 0);
    x.house(0, 1, 0, 7, 9);
    for (int what = 0; what <= 3; what++) due("no rent of the kind: " + what, x.unit(0, 0, what), none[what]);
    x.house(0, 0, 4, 8, 3);
    int[] that = {3, 8, 1, 2};
    for (int what = 0; what <= 3; what++) due("one rent of the kind: " + what, x.unit(0, 0, what), that[what]);
  }

  private static void unitAsItIs() {
    sentence("THE UNIT: a fraction: that RENT and SIZE, as they are");
    RateBook x = new RateBook();
    x.house(0, 0, 0, 20, 300);
    due("above", x.unit(0, 0, 0), 300);
    due("below", x.unit(0, 0, 1), 20);
    RateBook y = new RateBook();
    y.house(0, 0, 0, 500, 100000);
    due("the most above", y.unit(0, 0, 0), 100000);
    due("the most below", y.unit(0, 0, 1), 500);
    y.rent(0, 1);
    due("the least above", y.unit(0, 0, 0), 1);
  }

  private static void mostLists() {
    sentence("LISTS, 10 at most");
    RateBook x = new RateBook();
    for (int i = 0; i < 9; i++) due("list", x.list(i), i);
    due("the 10th", x.list(9), 9);
    due("the 11th", x.list(10), FULL);
    due("how many", x.count(1), 10);
  }

  private static void listDays() {
    sentence("LISTS, each with a DAY above those ahead");
    RateBook x = new RateBook();
    due("the first, of any day", x.list(5), 0);
    due("the day ahead", x.list(4), NO);
    due("that day", x.list(5), NO);
    due("day 0", x.list(0), NO);
    due("the day behind", x.list(6), 1);
    due("that day", x.list(6), NO);
    due("the first's day", x.list(5), NO);
    due("the last day", x.list(3649), 2);
    due("the last day again", x.list(3649), NO);
  }

  private static void listUnits() {
    sentence("LISTS: UNITS of all KINDS and STREETS, as they are when it is made");
    RateBook x = new RateBook();
    for (int i = 0; i < 18; i++) x.house(0, i / 6, i % 6, 1, 100 + i);
    x.list(0);
    for (int i = 0; i < 18; i++) x.rent(i, 300 + i);
    for (int i = 0; i < 18; i++) due("worth as it was made", x.on(i, 3649, 2), 100 + i);
    x.list(1);
    for (int i = 0; i < 18; i++) due("worth by the next one", x.on(i, 3649, 2), 300 + i);
    for (int i = 0; i < 18; i++) due("worth by the first", x.on(i, 0, 2), 100 + i);
    x.house(0, 2, 5, 4, 1);
    due("a house that came later", x.on(18, 1, 2), 4 * 317);
    RateBook y = new RateBook();
    y.house(0, 0, 0, 1, 40);
    y.list(0);
    y.house(0, 0, 3, 1, 50);
    due("of the kind in all streets, as it was", y.on(1, 0, 2), 40);
    y.house(0, 1, 3, 1, 50);
    due("10 by 1, as it was", y.on(2, 0, 2), 10);
  }

  private static void listStands() {
    sentence("LISTS: it stands from its DAY until the next one's");
    RateBook x = one(1, 7);
    x.rent(0, 8);
    x.list(100);
    x.rent(0, 9);
    x.list(101);
    int[][] due = {{0, 0}, {99, 0}, {100, 1}, {101, 2}, {102, 2}, {3649, 2}};
    for (int[] d : due) due("list on " + d[0], x.on(0, d[0], 5), d[1]);
    for (int[] d : due) due("worth on " + d[0], x.on(0, d[0], 2), 7 + d[1]);
    RateBook y = new RateBook();
    y.house(0, 0, 0, 1, 7);
    y.list(200);
    due("ahead of the first", y.on(0, 199, 5), NONE);
    due("the first", y.on(0, 200, 5), 0);
  }

  // ==== 2

  private static void mostEvents() {
    sentence("A HOUSE has EVENTS, 12 at most");
    for (int kind = 0; kind <= 2; kind++) {
      RateBook x = one(1, 0);
      x.house(0, 0, 0, 1, 0);
      for (int i = 1; i <= 11; i++) due("event", x.event(0, i, kind, 1), i);
      due("the 12th", x.event(0, 0, kind, 1), 12);
      due("the 13th", x.event(0, 0, kind, 1), FULL);
      due("the 13th, of another kind", x.event(0, 0, 2 - kind, 1), FULL);
      due("how many", x.count(2), 12);
      due("another house's first", x.event(1, 0, kind, 1), 1);
      x.strike(0);
      due("the 12th again", x.event(0, 0, kind, 1), 12);
    }
  }

  private static void eventSizes() {
    sentence("EVENTS: a SIZE (1 to 500)");
    RateBook x = one(7, 0);
    for (int v : new int[] {0, -1, 501, LEAST, MOST}) due("size " + v, x.event(0, 0, 0, v), BAD);
    due("it is as it was", x.on(0, 0, 0), 7);
    due("size 1", x.event(0, 0, 0, 1), 1);
    due("it is 1", x.on(0, 0, 0), 1);
    due("size 500", x.event(0, 0, 0, 500), 2);
    due("it is 500", x.on(0, 0, 0), 500);
  }

  private static void eventUses() {
    sentence("EVENTS: a USE (0 FULL, 1 EMPTY, 2 HALF, 3 CHARITY)");
    RateBook x = one(100, 0);
    for (int v : new int[] {-1, 4, LEAST, MOST}) due("use " + v, x.event(0, 0, 1, v), BAD);
    due("it is as it was", x.on(0, 0, 1), 0);
    int[] counts = {1000, 0, 500, 200};
    for (int use = 3; use >= 0; use--) {
      due("use " + use, x.event(0, 0, 1, use), 4 - use);
      due("it is " + use, x.on(0, 0, 1), use);
      due("it counts", x.on(0, 0, 3), counts[use]);
    }
  }

  private static void eventCuts() {
    sentence("EVENTS: a CUT (1 to 900 thousandths)");
    RateBook x = one(100, 0);
    for (int v : new int[] {0, -1, 901, 1000, LEAST, MOST}) due("cut " + v, x.event(0, 0, 2, v), BAD);
    for (int v : new int[] {0, -1, 901, 1000, LEAST, MOST}) due("appeal " + v, x.appeal(0, 0, v, false), BAD);
    for (int v : new int[] {0, -1, 901, 1000, LEAST, MOST}) due("appeal of like " + v, x.appeal(0, 0, v, true), BAD);
    due("it is as it was", x.on(0, 0, 2), 1000);
    due("cut 1", x.event(0, 0, 2, 1), 1);
    due("its worth", x.on(0, 0, 2), 999);
    x.strike(0);
    due("cut 900", x.event(0, 0, 2, 900), 1);
    due("its worth", x.on(0, 0, 2), 100);
    x.strike(0);
    due("appeal 1", x.appeal(0, 0, 1, false), 1);
    due("its worth", x.on(0, 0, 2), 999);
    x.strike(0);
    due("appeal 900", x.appeal(0, 0, 900, true), 1);
    due("its worth", x.on(0, 0, 2), 100);
  }

  private static void eventKinds() {
    sentence("kind 0 a SIZE, 1 a USE, 2 a CUT");
    RateBook x = one(100, 0);
    for (int kind : new int[] {-1, 3, LEAST, MOST}) due("kind " + kind, x.event(0, 0, kind, 1), BAD);
    due("none has come", x.count(2), 0);
    due("a size", x.event(0, 0, 0, 2), 1);
    due("its size", x.on(0, 0, 0), 2);
    due("a use", x.event(0, 0, 1, 2), 2);
    due("its use", x.on(0, 0, 1), 2);
    due("a cut", x.event(0, 0, 2, 500), 3);
    due("its worth", x.on(0, 0, 2), 10);
    due("its size is as it was", x.on(0, 0, 0), 2);
    due("its use is as it was", x.on(0, 0, 1), 2);
  }

  private static void eventFromADay() {
    sentence("EVENTS, each from a DAY on");
    RateBook x = one(100, 0);
    x.event(0, 50, 0, 200);
    due("its size the day ahead", x.on(0, 49, 0), 100);
    due("its size that day", x.on(0, 50, 0), 200);
    due("its size on the last day", x.on(0, 3649, 0), 200);
    x.event(0, 70, 1, 2);
    due("its use the day ahead", x.on(0, 69, 1), 0);
    due("its use that day", x.on(0, 70, 1), 2);
    due("its use on the last day", x.on(0, 3649, 1), 2);
    x.event(0, 90, 2, 500);
    due("its worth the day ahead", x.on(0, 89, 2), 2000);
    due("its worth that day", x.on(0, 90, 2), 1000);
    due("its worth on the last day", x.on(0, 3649, 2), 1000);
    x.event(0, 3649, 0, 300);
    due("of the last day, the day ahead", x.on(0, 3648, 0), 200);
    due("of the last day", x.on(0, 3649, 0), 300);
  }

  private static void latestByDay() {
    sentence("Of SIZES, of USES the latest by DAY that is not behind counts");
    RateBook x = one(10, 0);
    int[] days = {50, 52, 51};
    for (int i = 0; i < 3; i++) x.event(0, days[i], 0, days[i]);
    for (int i = 0; i < 3; i++) x.event(0, days[i], 1, i + 1);
    int[] sizes = {10, 50, 51, 52, 52};
    int[] uses = {0, 1, 3, 2, 2};
    for (int day = 49; day <= 53; day++) due("size on " + day, x.on(0, day, 0), sizes[day - 49]);
    for (int day = 49; day <= 53; day++) due("use on " + day, x.on(0, day, 1), uses[day - 49]);
    RateBook y = one(10, 0);
    y.event(0, 50, 0, 3);
    y.event(0, 51, 1, 2);
    y.event(0, 52, 2, 1);
    due("a use and a cut are no sizes", y.on(0, 52, 0), 3);
    due("a cut is no use", y.on(0, 52, 1), 2);
  }

  private static void ofOneDayToldLast() {
    sentence("of one DAY that which was told last");
    RateBook x = one(10, 0);
    x.event(0, 50, 0, 30);
    x.event(0, 50, 0, 20);
    x.event(0, 49, 0, 40);
    due("of one day", x.on(0, 50, 0), 20);
    due("told last, of the day ahead", x.on(0, 49, 0), 40);
    x.event(0, 50, 0, 25);
    due("told last again", x.on(0, 50, 0), 25);
    x.event(0, 60, 1, 3);
    x.event(0, 60, 1, 2);
    x.event(0, 59, 1, 1);
    due("use of one day", x.on(0, 60, 1), 2);
    due("use of the day ahead", x.on(0, 59, 1), 1);
    x.event(0, 60, 1, 0);
    due("use told last again", x.on(0, 60, 1), 0);
  }

  private static void withoutOne() {
    sentence("without one: the SIZE that it came with, FULL");
    RateBook x = one(123, 0);
    due("size", x.on(0, 0, 0), 123);
    due("use", x.on(0, 0, 1), 0);
    x.event(0, 10, 0, 5);
    x.event(0, 10, 1, 3);
    due("size ahead of the first", x.on(0, 9, 0), 123);
    due("use ahead of the first", x.on(0, 9, 1), 0);
    due("size from the first on", x.on(0, 10, 0), 5);
    due("use from the first on", x.on(0, 10, 1), 3);
    x.strike(0);
    x.strike(0);
    due("size, all struck", x.on(0, 10, 0), 123);
    due("use, all struck", x.on(0, 10, 1), 0);
  }

  private static void ofAnyDay() {
    sentence("An EVENT may be told of any DAY");
    RateBook x = one(10, 0);
    x.list(1000);
    x.struck(0, 0);
    x.struck(9, 0);
    due("the last day", x.event(0, 3649, 0, 1), 1);
    due("day 0, behind it, of a struck year", x.event(0, 0, 0, 2), 2);
    due("ahead of the latest list", x.event(0, 999, 1, 2), 3);
    due("between", x.event(0, 1000, 2, 3), 4);
    due("an appeal of day 0", x.appeal(0, 0, 4, true), 1);
    due("day 0 counts", x.on(0, 0, 0), 2);
    due("the last day counts", x.on(0, 3649, 0), 1);
  }

  private static void worthWithoutAList() {
    sentence("ITS WORTH: 0, if no LIST stands");
    RateBook x = new RateBook();
    x.house(0, 0, 0, 200, 4000);
    due("no list at all", x.on(0, 3649, 2), 0);
    x.list(100);
    due("ahead of the first", x.on(0, 99, 2), 0);
    due("from the first on", x.on(0, 100, 2), 4000);
    due("nothing counts ahead of it", x.on(0, 99, 4), 0);
    due("it counts", x.on(0, 100, 4), 4000);
  }

  private static void worthIsCut() {
    sentence("ITS WORTH: SIZE times above of THE UNIT by below, cut");
    RateBook x = one(3, 10);
    int[] worths = {3, 6, 10, 13, 16, 20};
    for (int size = 1; size <= 6; size++) {
      x.event(0, size, 0, size);
      due("of size " + size, x.on(0, size, 2), worths[size - 1]);
    }
    RateBook y = one(500, 1);
    due("just 1", y.on(0, 0, 2), 1);
    y.event(0, 0, 0, 499);
    due("a little less than 1", y.on(0, 0, 2), 0);
  }

  private static void cutNotBehind() {
    sentence("ITS WORTH: for each CUT of a DAY not behind");
    RateBook x = one(100, 0);
    x.event(0, 50, 2, 500);
    due("the day ahead", x.on(0, 49, 2), 1000);
    due("that day", x.on(0, 50, 2), 500);
    due("the day after", x.on(0, 51, 2), 500);
    x.event(0, 52, 2, 500);
    due("each", x.on(0, 52, 2), 250);
    due("but one", x.on(0, 51, 2), 500);
  }

  private static void cutNotAheadOfTheList() {
    sentence("ITS WORTH: for each CUT not ahead of the LIST's DAY");
    RateBook x = new RateBook();
    x.house(0, 0, 0, 100, 0);
    x.list(50);
    x.event(0, 49, 2, 500);
    due("the day ahead of the list's", x.on(0, 50, 2), 1000);
    x.event(0, 50, 2, 100);
    due("the list's day", x.on(0, 50, 2), 900);
    x.event(0, 99, 2, 500);
    x.list(100);
    due("ahead of the next list", x.on(0, 99, 2), 450);
    due("by the next list", x.on(0, 100, 2), 1000);
    x.event(0, 100, 2, 200);
    due("of the next list's day", x.on(0, 100, 2), 800);
    due("on the day ahead of it", x.on(0, 99, 2), 450);
  }

  /** A worth of 15, cut by two; by 600, then by 500: 6, 3; by 500, then by 600: 7, 2. */
  private static int twoCuts(int day, int cut, int otherDay, int otherCut) {
    RateBook x = one(10, 15);
    x.event(0, day, 2, cut);
    x.event(0, otherDay, 2, otherCut);
    return x.on(0, 9, 2);
  }

  private static void cutsByDays() {
    sentence("CUTS by DAYS");
    due("told by days", twoCuts(5, 600, 6, 500), 3);
    due("told the other way", twoCuts(6, 500, 5, 600), 3);
    due("told by days", twoCuts(5, 500, 6, 600), 2);
    due("told the other way", twoCuts(6, 600, 5, 500), 2);
  }

  private static void cutsOfOneDay() {
    sentence("CUTS of one DAY as told");
    due("by 600 first", twoCuts(5, 600, 5, 500), 3);
    due("by 500 first", twoCuts(5, 500, 5, 600), 2);
    RateBook x = one(10, 15);
    x.event(0, 5, 2, 500);
    x.event(0, 9, 0, 10);
    x.event(0, 5, 1, 0);
    x.appeal(0, 5, 600, false);
    due("an appeal behind an event", x.on(0, 9, 2), 2);
  }

  private static int cutBy(int worth, int cut) {
    RateBook x = one(1, worth);
    x.event(0, 0, 2, cut);
    return x.on(0, 0, 2);
  }

  private static void cutsAreCut() {
    sentence("a CUT: times 1000 less that by 1000, cut");
    due("1000 by 1", cutBy(1000, 1), 999);
    due("1001 by 1: 999.999 and a little", cutBy(1001, 1), 999);
    due("1002 by 1: 1000.998", cutBy(1002, 1), 1000);
    due("999 by 1: 998.001", cutBy(999, 1), 998);
    due("1 by 1", cutBy(1, 1), 0);
    due("19 by 900", cutBy(19, 900), 1);
    due("20 by 900", cutBy(20, 900), 2);
    due("9 by 900", cutBy(9, 900), 0);
    due("10 by 900", cutBy(10, 900), 1);
    due("each is cut by itself", twoCuts(5, 500, 6, 600), 2);
  }

  private static void worthDoesNotWrap() {
    sentence("ITS WORTH at its most is not wrapped around");
    RateBook x = one(1, 100000);
    x.event(0, 0, 0, 500);
    due("worth", x.on(0, 0, 2), 50000000);
    due("counts", x.on(0, 0, 3), 50000000);
    due("behind relief", x.on(0, 0, 4), 50000000);
    x.event(0, 1, 2, 1);
    due("cut by 1", x.on(0, 1, 2), 49950000);
    x.event(0, 2, 2, 900);
    due("cut by 900", x.on(0, 2, 2), 4995000);
    RateBook y = new RateBook();
    y.house(0, 0, 0, 1, 100000);
    y.house(0, 0, 0, 500, 0);
    due("tested", y.tested(1), 50000000);
  }

  private static void countsFull() {
    sentence("IT COUNTS: FULL its WORTH");
    RateBook x = one(1, 19);
    due("without a use", x.on(0, 0, 3), 19);
    x.event(0, 1, 1, 2);
    x.event(0, 2, 1, 0);
    due("the day ahead", x.on(0, 1, 3), 9);
    due("full again", x.on(0, 2, 3), 19);
  }

  private static void countsEmpty() {
    sentence("IT COUNTS: EMPTY 0 on the first 90 DAYS since that USE's DAY");
    RateBook x = one(1, 19);
    x.event(0, 100, 1, 1);
    due("the day ahead", x.on(0, 99, 3), 19);
    due("the first day", x.on(0, 100, 3), 0);
    due("the 89th day", x.on(0, 188, 3), 0);
    due("the 90th day", x.on(0, 189, 3), 0);
    due("the 91st day", x.on(0, 190, 3), 9);
    RateBook y = one(1, 19);
    y.event(0, 0, 1, 1);
    due("from day 0: the 90th", y.on(0, 89, 3), 0);
    due("from day 0: the 91st", y.on(0, 90, 3), 9);
    RateBook z = one(1, 19);
    z.event(0, 3560, 1, 1);
    due("up to the last day", z.on(0, 3649, 3), 0);
    RateBook last = one(1, 19);
    last.event(0, 3559, 1, 1);
    due("one day more", last.on(0, 3649, 3), 9);
  }

  private static void countsEmptySince() {
    sentence("since that USE's DAY");
    RateBook x = one(1, 19);
    x.event(0, 100, 1, 1);
    x.list(150);
    x.event(0, 160, 0, 1);
    x.event(0, 170, 2, 1);
    due("not since a list, a size, a cut", x.on(0, 190, 3), 9);
    x.event(0, 120, 1, 2);
    x.event(0, 140, 1, 1);
    due("since the later one: the 90th day", x.on(0, 229, 3), 0);
    due("since the later one: the 91st day", x.on(0, 230, 3), 9);
    RateBook y = one(1, 19);
    y.event(0, 140, 1, 1);
    y.event(0, 100, 1, 1);
    due("told the other way", y.on(0, 229, 3), 0);
    due("told the other way", y.on(0, 230, 3), 9);
  }

  private static void countsEmptyBehind() {
    sentence("EMPTY: then half of it, cut");
    int[][] halves = {{1, 0}, {2, 1}, {3, 1}, {4, 2}, {2401, 1200}};
    for (int[] h : halves) {
      RateBook x = one(1, h[0]);
      x.event(0, 0, 1, 1);
      due("the first 90 days", x.on(0, 89, 3), 0);
      due("half of " + h[0], x.on(0, 90, 3), h[1]);
      due("half of it on the last day", x.on(0, 3649, 3), h[1]);
    }
  }

  private static void countsHalf() {
    sentence("IT COUNTS: HALF half, cut");
    int[][] halves = {{1, 0}, {2, 1}, {3, 1}, {4, 2}, {2401, 1200}};
    for (int[] h : halves) {
      RateBook x = one(1, h[0]);
      x.event(0, 0, 1, 2);
      due("half of " + h[0], x.on(0, 0, 3), h[1]);
      due("half of it behind 90 days", x.on(0, 90, 3), h[1]);
    }
  }

  private static void countsCharity() {
    sentence("IT COUNTS: CHARITY a fifth, cut");
    int[][] fifths = {{4, 0}, {5, 1}, {9, 1}, {10, 2}, {6004, 1200}, {6005, 1201}};
    for (int[] f : fifths) {
      RateBook x = one(1, f[0]);
      x.event(0, 0, 1, 3);
      due("a fifth of " + f[0], x.on(0, 0, 3), f[1]);
      due("a fifth of it behind 90 days", x.on(0, 90, 3), f[1]);
    }
  }

  private static int behindRelief(int counts) {
    return one(1, counts).on(0, 0, 4);
  }

  private static void reliefNothing() {
    sentence("RELIEF: up to 1200 nothing counts");
    RateBook x = one(500, 1);
    x.event(0, 0, 0, 1);
    due("a worth of 0", x.on(0, 0, 4), 0);
    due("1", behindRelief(1), 0);
    due("1199", behindRelief(1199), 0);
    due("1200", behindRelief(1200), 0);
    due("1201", behindRelief(1201), 5);
  }

  private static void reliefFiveTimes() {
    sentence("RELIEF: above that, up to 1500: five times what it is above 1200");
    due("1201", behindRelief(1201), 5);
    due("1202", behindRelief(1202), 10);
    due("1350", behindRelief(1350), 750);
    due("1499", behindRelief(1499), 1495);
    due("1500", behindRelief(1500), 1500);
  }

  private static void reliefAll() {
    sentence("RELIEF: above 1500 all");
    due("1500", behindRelief(1500), 1500);
    due("1501", behindRelief(1501), 1501);
    due("1502", behindRelief(1502), 1502);
    due("100000", behindRelief(100000), 100000);
  }

  private static void reliefWithoutAJump() {
    sentence("relief in steps without a jump");
    for (int counts = 1190; counts < 1510; counts++) {
      int step = counts < 1200 ? 0 : counts < 1500 ? 5 : 1;
      due("from " + counts + " to the next", behindRelief(counts + 1) - behindRelief(counts), step);
    }
  }

  private static int behindRelief(int worth, int use, int day) {
    RateBook x = one(1, worth);
    x.event(0, 0, 1, use);
    return x.on(0, day, 4);
  }

  private static void reliefOfWhatCounts() {
    sentence("Of what counts: RELIEF");
    due("half of 2401", behindRelief(2401, 2, 0), 0);
    due("half of 2402", behindRelief(2402, 2, 0), 5);
    due("half of 3001", behindRelief(3001, 2, 0), 1500);
    due("half of 3002", behindRelief(3002, 2, 0), 1501);
    due("a fifth of 6004", behindRelief(6004, 3, 0), 0);
    due("a fifth of 6005", behindRelief(6005, 3, 0), 5);
    due("a fifth of 7505", behindRelief(7505, 3, 0), 1501);
    due("empty, the 90th day", behindRelief(100000, 1, 89), 0);
    due("empty, half of 2401", behindRelief(2401, 1, 90), 0);
    due("empty, half of 2402", behindRelief(2402, 1, 90), 5);
    RateBook x = one(1, 2401);
    x.event(0, 0, 1, 2);
    due("ahead of it", x.on(0, 0, 3), 1200);
  }

  private static void yearIsTheSum() {
    sentence("ITS YEAR is the sum of what it COUNTS, RELIEF taken, on all DAYS of a YEAR");
    due("1200 each day", one(1, 1200).year(0, 0), 0);
    due("1201 each day", one(1, 1201).year(0, 0), 365 * 5);
    due("1501 each day", one(1, 1501).year(0, 9), 365 * 1501);
    RateBook x = one(1, 1501);
    x.event(0, 364, 0, 2);
    due("two sizes, the last day", x.year(0, 0), 364 * 1501 + 3002);
    x.event(0, 1, 1, 2);
    due("half from the second day on", x.year(0, 0), 1501 + 1501);
    RateBook y = one(1, 4000);
    y.event(0, 275, 1, 1);
    due("its last 90 days empty", y.year(0, 0), 275 * 4000);
    y.strike(0);
    y.event(0, 274, 1, 1);
    due("its last 91 days empty", y.year(0, 0), 274 * 4000 + 2000);
    y.event(0, 364, 2, 500);
    due("half of 2000 on its last day", y.year(0, 0), 274 * 4000);
    y.strike(0);
    y.strike(0);
    y.event(0, 364, 1, 1);
    due("empty from its last day on", y.year(0, 0), 364 * 4000);
    due("89 days of the next year", y.year(0, 1), 276 * 2000);
    due("none of the year after", y.year(0, 2), 365 * 2000);
    RateBook z = new RateBook();
    z.house(0, 0, 0, 1, 2000);
    z.list(1);
    due("no list on its first day", z.year(0, 0), 364 * 2000);
    z.rent(0, 3000);
    z.list(364);
    due("another list on its last day", z.year(0, 0), 363 * 2000 + 3000);
  }

  private static void yearDoesNotWrap() {
    sentence("ITS YEAR at its most is not wrapped around");
    RateBook x = one(1, 100000);
    x.event(0, 0, 0, 500);
    for (int y = 0; y <= 9; y++) due("year " + y, x.year(0, y), 18250000000L);
    x.event(0, 0, 0, 58);
    due("a little less than 2 to the 31st", x.year(0, 0), 2117000000L);
    x.event(0, 0, 0, 59);
    due("a little more", x.year(0, 0), 2153500000L);
  }

  private static void billPoundages() {
    sentence("a POUNDAGE p (thousandths, 0 to 3000)");
    RateBook x = one(1, 2000);
    for (int p : new int[] {-1, 3001, LEAST, MOST}) due("p " + p, x.bill(0, 0, p), BAD);
    due("p 0", x.bill(0, 0, 0), 0);
    due("p 1", x.bill(0, 0, 1), 2);
    due("p 2999", x.bill(0, 0, 2999), 5998);
    due("p 3000", x.bill(0, 0, 3000), 6000);
  }

  private static void billIsCut() {
    sentence("ITS BILL: ITS YEAR times p by 365000, cut");
    RateBook x = one(1, 1999);
    due("1.999", x.bill(0, 0, 1), 1);
    due("999.5", x.bill(0, 0, 500), 999);
    due("1997.001", x.bill(0, 0, 999), 1997);
    due("1999 as it is", x.bill(0, 0, 1000), 1999);
    RateBook y = one(1, 2000);
    due("2 as it is", y.bill(0, 0, 1), 2);
    y.event(0, 364, 0, 2);
    due("2 and 2 by 365, times 182", y.bill(0, 0, 182), 364);
    due("2 and 2 by 365, times 183", y.bill(0, 0, 183), 367);
    RateBook z = new RateBook();
    z.house(0, 0, 0, 1, 36500);
    z.list(364);
    due("one day of it: 0.1", z.bill(0, 0, 1), 0);
    due("one day of it: 0.9", z.bill(0, 0, 9), 0);
    due("one day of it: 1", z.bill(0, 0, 10), 1);
    due("one day of it: 300", z.bill(0, 0, 3000), 300);
  }

  private static void billDoesNotWrap() {
    sentence("ITS BILL at its most is not wrapped around");
    RateBook x = one(1, 100000);
    x.event(0, 0, 0, 500);
    due("p 3000", x.bill(0, 9, 3000), 150000000);
    due("p 1", x.bill(0, 9, 1), 50000);
  }

  private static void poundageIsTheLeast() {
    sentence("THE POUNDAGE is the least p by which BILLS are NEEDS at least");
    RateBook x = one(1, 2000);
    x.house(3, 0, 0, 2, 0);
    for (int p : new int[] {1, 2, 3, 4, 999, 1000, 1023, 1024, 1025, 2047, 2048, 2049, 2999, 3000}) {
      due("6 p - 5, p " + p, x.poundage(0, 6 * p - 5), p);
      due("6 p - 1, p " + p, x.poundage(0, 6 * p - 1), p);
      due("6 p, p " + p, x.poundage(0, 6 * p), p);
    }
    due("no needs", x.poundage(0, 0), 0);
    RateBook y = one(1, 100000);
    due("100 each step: 0", y.poundage(0, 0), 0);
    due("100 each step: 1", y.poundage(0, 1), 1);
    due("100 each step: 100", y.poundage(0, 100), 1);
    due("100 each step: 101", y.poundage(0, 101), 2);
  }

  private static void poundageOfCutBills() {
    sentence("THE POUNDAGE: by which BILLS of all HOUSES together");
    RateBook x = one(1, 1999);
    x.house(1, 0, 0, 1, 0);
    due("1 and 1", x.poundage(0, 2), 1);
    due("3.998 in all, but each is cut", x.poundage(0, 3), 2);
    due("3 and 3", x.poundage(0, 6), 2);
    due("7.996 in all", x.poundage(0, 7), 3);
    x.house(2, 2, 0, 1, 0);
    due("a house that does not count adds nothing", x.poundage(0, 3), 2);
  }

  private static void poundageNone() {
    sentence("THE POUNDAGE: none, if 3000 does not do");
    RateBook x = one(1, 2000);
    x.house(3, 0, 0, 2, 0);
    due("2999 does it", x.poundage(0, 17994), 2999);
    due("3000 does it", x.poundage(0, 17995), 3000);
    due("3000 just does it", x.poundage(0, 18000), 3000);
    due("3000 does not do", x.poundage(0, 18001), NONE);
    due("nor for the most needs", x.poundage(0, 100000000), NONE);
    RateBook y = new RateBook();
    due("no house, no needs", y.poundage(0, 0), 0);
    due("no house, needs of 1", y.poundage(0, 1), NONE);
    RateBook z = one(1, 1200);
    due("nothing counts, no needs", z.poundage(0, 0), 0);
    due("nothing counts, needs of 1", z.poundage(0, 1), NONE);
  }

  private static void poundageNeeds() {
    sentence("NEEDS (0 to 100000000)");
    RateBook x = one(1, 100000);
    x.event(0, 0, 0, 500);
    for (int needs : new int[] {-1, 100000001, LEAST, MOST}) due("needs " + needs, x.poundage(0, needs), BAD);
    for (int needs : new int[] {-1, 100000001, LEAST, MOST}) due("struck for " + needs, x.struck(0, needs), BAD);
    due("needs 0", x.poundage(0, 0), 0);
    due("needs 1", x.poundage(0, 1), 1);
    due("needs 99950001", x.poundage(0, 99950001), 2000);
    due("needs 100000000", x.poundage(0, 100000000), 2000);
    due("struck for 0", x.struck(0, 0), 0);
    due("struck for 100000000", x.struck(0, 100000000), 2000);
    due("its needs", x.ward(-1, 0, 3), 100000000);
    due("what was billed", x.ward(-1, 0, 0), 100000000);
  }

  private static RateBook mostOf(int houses) {
    RateBook x = new RateBook();
    x.house(0, 0, 0, 1, 100000);
    x.event(0, 0, 0, 500);
    for (int i = 1; i < houses; i++) x.house(i % 4, 0, 0, 500, 0);
    x.list(0);
    return x;
  }

  private static void poundageDoesNotWrap() {
    sentence("BILLS together at their most are not wrapped around");
    due("14 houses: 2100000000 for 3000", mostOf(14).poundage(0, 100000000), 143);
    due("15 houses: 2250000000 for 3000", mostOf(15).poundage(0, 100000000), 134);
    due("20 houses: 3000000000 for 3000", mostOf(20).poundage(0, 100000000), 100);
    due("29 houses: 4350000000 for 3000", mostOf(29).poundage(0, 100000000), 69);
    RateBook x = mostOf(40);
    due("40 houses: 98000000", x.poundage(0, 98000000), 49);
    due("40 houses: 98000001", x.poundage(0, 98000001), 50);
    due("struck", x.struck(9, 100000000), 50);
    due("what was billed", x.ward(-1, 9, 0), 100000000);
  }

  // ==== 3

  private static void struckIsKept() {
    sentence("STRUCK: its POUNDAGE is kept, and each HOUSE's BILL as it is then");
    RateBook x = one(1, 2000);
    x.house(1, 0, 0, 2, 0);
    due("struck", x.struck(0, 3000), 500);
    x.event(0, 0, 0, 10);
    x.rent(0, 5);
    x.house(2, 0, 0, 3, 0);
    due("poundage", x.ward(-1, 0, 2), 500);
    due("needs", x.ward(-1, 0, 3), 3000);
    due("billed then", x.paid(0, 0, 0), 1000);
    due("the other, then", x.paid(1, 0, 0), 2000);
    due("it came later", x.paid(2, 0, 0), NONE);
    due("another year", x.paid(0, 1, 0), NONE);
    due("as things are now", x.bill(0, 0, 500), 10000);
  }

  private static void struckAnew() {
    sentence("A YEAR may be STRUCK anew: what was paid stays");
    RateBook x = one(1, 2000);
    x.struck(4, 1000);
    x.pay(0, 4, 300);
    x.house(1, 0, 0, 1, 0);
    x.pay(1, 4, 7);
    due("anew", x.struck(4, 2000), 500);
    due("its poundage is the new one", x.ward(-1, 4, 2), 500);
    due("its needs are the new ones", x.ward(-1, 4, 3), 2000);
    due("billed anew", x.paid(0, 4, 0), 1000);
    due("what came later is billed now", x.paid(1, 4, 0), 1000);
    due("paid stays", x.paid(0, 4, 1), 300);
    due("paid stays of the other", x.paid(1, 4, 1), 7);
    due("paid on", x.pay(0, 4, 1), 301);
    due("one year is struck", x.count(3), 1);
    due("anew for less", x.struck(4, 0), 0);
    due("billed 0", x.paid(0, 4, 0), 0);
    due("paid stays", x.paid(0, 4, 1), 301);
    due("another year has its own", x.struck(5, 2), 1);
    due("the first is as it was", x.paid(0, 4, 0), 0);
  }

  /** Billed 1000 for year 0, with a sum paid. */
  private static RateBook billed1000(int sum) {
    RateBook x = one(1, 2000);
    x.struck(0, 1000);
    if (sum > 0) x.pay(0, 0, sum);
    return x;
  }

  private static void arrears() {
    sentence("ARREARS: what was BILLED less what was paid, if above 0");
    due("nothing paid", billed1000(0).owed(0, 0), 1000);
    due("999 paid", billed1000(999).owed(0, 0), 1);
    due("1000 paid", billed1000(1000).owed(0, 0), 0);
    due("1001 paid", billed1000(1001).owed(0, 0), 0);
  }

  private static void toGiveBack() {
    sentence("TO GIVE BACK: if below 0");
    due("nothing paid", billed1000(0).owed(0, 1), 0);
    due("999 paid", billed1000(999).owed(0, 1), 0);
    due("1000 paid", billed1000(1000).owed(0, 1), 0);
    due("1001 paid", billed1000(1001).owed(0, 1), 1);
    due("all that may be paid", billed1000(10000000).owed(0, 1), 9999000);
    RateBook x = billed1000(1000);
    x.struck(0, 998);
    due("struck anew for less", x.owed(0, 1), 2);
    due("no arrears", x.owed(0, 0), 0);
    x.struck(0, 1002);
    due("struck anew for more", x.owed(0, 0), 2);
    due("nothing to give back", x.owed(0, 1), 0);
  }

  private static void owedOfStruckYears() {
    sentence("ARREARS: of all STRUCK YEARS");
    RateBook x = one(1, 2000);
    x.pay(0, 9, 50);
    due("not struck: arrears", x.owed(0, 0), 0);
    due("not struck: to give back", x.owed(0, 1), 0);
    x.struck(9, 0);
    due("struck: arrears", x.owed(0, 0), 0);
    due("struck: to give back", x.owed(0, 1), 50);
    for (int y = 0; y <= 8; y++) x.struck(y, 2);
    due("all ten: arrears", x.owed(0, 0), 18);
    due("all ten: to give back", x.owed(0, 1), 50);
  }

  private static void owedWhereBilled() {
    sentence("ARREARS: in which it was BILLED");
    RateBook x = one(1, 2000);
    x.struck(0, 1000);
    x.house(0, 0, 0, 1, 0);
    due("it came later: arrears", x.owed(1, 0), 0);
    x.pay(1, 0, 30);
    due("it came later: to give back", x.owed(1, 1), 0);
    x.struck(0, 40);
    due("billed 20 now: arrears", x.owed(1, 0), 0);
    due("billed 20 now: to give back", x.owed(1, 1), 10);
    due("the first", x.owed(0, 0), 20);
  }

  private static void owedTogether() {
    sentence("ARREARS, TO GIVE BACK: together");
    RateBook x = one(1, 2000);
    for (int y = 0; y <= 9; y++) x.struck(y, 1000);
    due("ten years", x.owed(0, 0), 10000);
    x.pay(0, 0, 1001);
    x.pay(0, 9, 1010);
    x.pay(0, 5, 1000);
    x.pay(0, 6, 999);
    due("arrears of those that are open", x.owed(0, 0), 6 * 1000 + 1);
    due("to give back of those that are paid beyond", x.owed(0, 1), 11);
    RateBook y = mostOf(1);
    for (int year = 0; year <= 9; year++) y.struck(year, 100000000);
    due("the most arrears", y.owed(0, 0), 1000000000);
  }
}
