import java.io.IOException;

/** The edges of what the document says of reading: what follows, what is told, drawn, kept, and of sheets. */
public final class EdgesOfReadingTest extends Look {

  // ---- what follows from what

  /** 0 bears 1, 1 bears 2, .. 10 bears 11, told from the last on, so that each step is a round of its own. */
  private static GroundsReadOut chain() {
    GroundsReadOut x = new GroundsReadOut();
    for (int k = 10; k >= 0; k--) x.reason(1 << k, k + 1);
    return x;
  }

  private static void follows() {
    says("FOLLOWS from a set: it, and again and again each SAYING that a REASON BEARS all of whose set is of it;");
    GroundsReadOut x = new GroundsReadOut();
    for (int set : new int[] {0, 1, 2048, 4095}) due("without reasons", x.follows(set, 0), set);
    x = chain();
    for (int k = 0; k < 12; k++) due("from " + k, x.follows(1 << k, 0), 4096 - (1 << k));
    due("from nothing", x.follows(0, 0), 0);
    x.reason(0, 0);
    due("from nothing by a reason of none", x.follows(0, 0), 4095);
    x = new GroundsReadOut();
    x.reason(2047, 11);
    x.reason(2048 + 1023, 10);
    due("all of the set", x.follows(2047, 0), 4095);
    due("all but one of it", x.follows(2046, 0), 2046);
    due("all of the other", x.follows(4095 - 1024, 0), 4095);
    due("what isn't of the set doesn't matter", x.follows(4095 - 1, 0), 4094);
    says("STEPS: how many rounds till no more comes, in each of which all come that follow from what there was ahead.");
    x = new GroundsReadOut();
    dues("no reasons", 0, x.follows(0, 1), x.follows(1, 1), x.follows(4095, 1));
    x = chain();
    for (int k = 0; k < 12; k++) due("from " + k, x.follows(1 << k, 1), 11 - k);
    dues("nothing comes", 0, x.follows(0, 1), x.follows(4095, 1), x.follows(2048, 1));
    x.reason(0, 0);
    due("twelve at most", x.follows(0, 1), 12);
    due("one fewer", x.follows(1, 1), 11);
    x = new GroundsReadOut();
    for (int k = 1; k < 12; k++) x.reason(1, k);
    due("all in one", x.follows(1, 1), 1);
    x = new GroundsReadOut();
    x.reason(1, 1);
    x.reason(2, 2);
    x.reason(4, 3);
    due("not in the same round as what they need", x.follows(1, 1), 3);
    due("what is there already is no round", x.follows(bits(0, 1, 2, 3), 1), 0);
    due("but for the last", x.follows(bits(0, 1, 2), 1), 1);
    says("CLASHES: a set from which two that are OPPOSITE FOLLOW.");
    x = new GroundsReadOut();
    x.reason(bits(0), 5);
    x.reason(bits(1), 11);
    x.reason(bits(2), 8);
    due("both by reasons", x.follows(bits(0, 1), 2), 1);
    dues("one of them", 0, x.follows(bits(0), 2), x.follows(bits(1), 2));
    due("one is of the set", x.follows(bits(0, 11), 2), 1);
    due("its own opposite", x.follows(bits(2), 2), 1);
    due("nothing", x.follows(0, 2), 0);
  }

  private static void base() {
    says("BASE: of all sets of what was SAID from which all that was SAID FOLLOWS that of fewest SAYINGS; of like ones the least as bits.");
    GroundsReadOut x = new GroundsReadOut();
    dues("nothing was said", 0, x.best(0), x.best(1));
    x.set(0, 0, 4095);
    due("all, no reasons", x.best(0), 4095);
    due("twelve", x.best(1), 12);
    x = chain();
    dues("nothing was said", 0, x.best(0), x.best(1));
    x.set(0, 0, 4095);
    due("the first", x.best(0), 1);
    due("one", x.best(1), 1);
    x.set(0, 0, 4094);
    due("0 wasn't said", x.best(0), 2);
    x.set(0, 0, 2048);
    due("the last alone", x.best(0), 2048);
    x.reason(2048, 0);
    x.set(0, 0, 4095);
    due("each would do: the least", x.best(0), 1);
    x.set(0, 0, bits(11, 7, 3));
    due("each would do: the least of what was said", x.best(0), bits(3));
    x = new GroundsReadOut();
    x.reason(0, 0);
    x.reason(0, 11);
    x.set(0, 0, bits(0, 11));
    dues("by nothing", 0, x.best(0), x.best(1));
    x = new GroundsReadOut();
    x.set(0, 0, bits(0, 1, 2, 3));
    x.reason(bits(3), 0);
    x.reason(bits(3), 1);
    x.reason(bits(3), 2);
    due("fewest, though not least as bits", x.best(0), bits(3));
    x = new GroundsReadOut();
    x.set(0, 0, bits(0, 1));
    x.reason(bits(0), 5);
    x.reason(bits(5), 1);
    due("by way of what was not said", x.best(0), bits(0));
    x = new GroundsReadOut();
    x.set(0, 0, bits(0, 1));
    x.reason(bits(5), 0);
    x.reason(bits(5), 1);
    due("but not of it", x.best(0), bits(0, 1));
  }

  private static void why() {
    says("WHY (a SAYING): of all sets without it from which it FOLLOWS that of fewest SAYINGS; of like ones the least as bits; NONE.");
    GroundsReadOut x = new GroundsReadOut();
    for (int k = 0; k < 12; k++) dues("no reasons", NONE, x.why(k, 0), x.why(k, 1));
    x = chain();
    dues("none bears 0", NONE, x.why(0, 0), x.why(0, 1));
    for (int k = 1; k < 12; k++) due("the least of like ones", x.why(k, 0), 1);
    x.reason(0, 11);
    dues("nothing is enough", 0, x.why(11, 0), x.why(11, 1));
    due("not for the others", x.why(10, 0), 1);
    x = new GroundsReadOut();
    x.reason(2047, 11);
    x.reason(4094, 0);
    due("eleven", x.why(11, 0), 2047);
    due("eleven", x.why(11, 1), 11);
    due("eleven", x.why(0, 0), 4094);
    due("eleven", x.why(0, 1), 11);
    x.reason(bits(10), 11);
    due("fewest, though not least as bits", x.why(11, 0), bits(10));
    due("not by 11, which 0 needs, but by what bears 11", x.why(0, 1), 10);
    due("that is", x.why(0, 0), 4094 - 2048);
    x = new GroundsReadOut();
    x.reason(bits(1), 2);
    x.reason(bits(2), 1);
    due("not by itself", x.why(1, 0), bits(2));
    due("not by itself", x.why(2, 0), bits(1));
    x.set(0, 0, 4095);
    due("what was said doesn't matter", x.why(1, 0), bits(2));
    x.reason(bits(11), 2);
    due("1 by 2", x.why(1, 0), bits(2));
    due("2 by 1", x.why(2, 0), bits(1));
  }

  private static void peace() {
    says("PEACE: of all sets of what was SAID that don't CLASH that of most SAYINGS; of like ones the least as bits; NONE: none.");
    GroundsReadOut x = new GroundsReadOut();
    dues("nothing was said", 0, x.best(2), x.best(3));
    x.set(0, 0, 4095);
    due("of opposites the least as bits", x.best(2), 63);
    due("six", x.best(3), 6);
    x.set(0, 0, 4032);
    due("the upper six", x.best(2), 4032);
    x.set(0, 0, bits(5, 11));
    due("of two the least", x.best(2), bits(5));
    x.set(0, 0, bits(0, 6));
    due("of two the least", x.best(2), bits(0));
    x.reason(bits(0), 1);
    x.reason(bits(0), 7);
    due("0 brings a clash", x.best(2), bits(6));
    x.reason(bits(6), 1);
    x.reason(bits(6), 7);
    dues("each does: nothing is at peace", 0, x.best(2), x.best(3));
    x = new GroundsReadOut();
    x.reason(0, 3);
    x.reason(0, 9);
    dues("none, also if nothing was said", NONE, x.best(2), x.best(3));
    x.set(0, 0, bits(1));
    dues("none", NONE, x.best(2), x.best(3));
    x.unsay();
    x.set(0, 0, bits(9, 1));
    due("3 follows from nothing", x.best(2), bits(1));
    x = new GroundsReadOut();
    x.set(0, 0, bits(0, 7, 8));
    x.reason(bits(0), 1);
    due("of like ones the least", x.best(2), bits(0, 8));
    x.reason(bits(0), 2);
    due("most, though not least as bits", x.best(2), bits(7, 8));
    x.set(0, 0, bits(0, 7));
    due("of like ones the least", x.best(2), bits(0));
  }

  private static void strike() {
    says("STRIKE: the REASON without which most SAYINGS are of PEACE; of like ones the first; NONE: no REASONS.");
    GroundsReadOut x = new GroundsReadOut();
    due("no reasons", x.best(4), NONE);
    x.reason(1, 1);
    due("one", x.best(4), 0);
    x.unsay();
    due("none again", x.best(4), NONE);
    for (int i = 0; i < 11; i++) x.reason(bits(8), 3);
    due("of eleven like ones the first", x.best(4), 0);
    x.set(0, 0, bits(0));
    x.reason(bits(0), 6);
    due("the last of twelve", x.best(4), 11);
    x = new GroundsReadOut();
    x.set(0, 0, bits(0, 1, 2));
    x.reason(bits(0), 6);
    x.reason(bits(1, 2), 7);
    due("of like ones the first", x.best(4), 0);
    x.set(0, 0, bits(1, 2));
    due("by which it is more", x.best(4), 1);
    x = new GroundsReadOut();
    x.reason(bits(1), 2);
    x.reason(0, 0);
    x.reason(0, 6);
    due("a peace of no sayings is more than none", x.best(4), 1);
    x.reason(0, 0);
    due("only 0 for 6 brings peace", x.best(4), 2);
    x.reason(0, 6);
    due("no peace by any: the first", x.best(4), 0);
  }

  private static void vain() {
    says("VAIN: REASONS (bits) whose SAYING FOLLOWS from their set by all other REASONS alone.");
    GroundsReadOut x = new GroundsReadOut();
    due("no reasons", x.best(5), 0);
    x.reason(1, 1);
    due("not by itself", x.best(5), 0);
    x.reason(1, 1);
    due("each by the other", x.best(5), 3);
    x = chain();
    due("a chain", x.best(5), 0);
    x.reason(1, 11);
    due("the twelfth by the chain", x.best(5), 2048);
    x = new GroundsReadOut();
    for (int i = 0; i < 12; i++) x.reason(i < 6 ? 0 : 1, 11);
    due("all twelve", x.best(5), 4095);
    x = new GroundsReadOut();
    x.reason(bits(1, 2), 3);
    x.reason(bits(1), 3);
    due("the larger set by the smaller", x.best(5), 1);
    x.reason(bits(4), 1);
    due("not the other way", x.best(5), 1);
    x.reason(bits(4), 3);
    due("in two steps", x.best(5), bits(0, 3));
  }

  private static void next() {
    says("NEXT (one): the CUP by the REASON of which, were it one more, most would FOLLOW from what was SAID; of like ones the first; NONE: no CUPS, or there are 12 REASONS.");
    GroundsReadOut x = new GroundsReadOut();
    x.reader(ARAB, 0);
    x.set(0, 0, bits(1, 2, 3));
    due("no cups", x.next(0, 0), NONE);
    due("as so", x.next(0, 1), 3);
    x.cup(bits(1, 11), 5);
    due("one cup, by which nothing more follows", x.next(0, 0), 0);
    due("three", x.next(0, 1), 3);
    for (int i = 1; i < 5; i++) x.cup(bits(1, 11), 5 + i);
    due("of like ones the first", x.next(0, 0), 0);
    x.cup(bits(1), 10);
    due("the last of six", x.next(0, 0), 5);
    due("four", x.next(0, 1), 4);
    for (int i = 0; i < 11; i++) x.reason(bits(9), 0);
    due("eleven reasons", x.next(0, 0), 5);
    due("four", x.next(0, 1), 4);
    x.reason(bits(3), 4);
    due("twelve", x.next(0, 0), NONE);
    due("as so", x.next(0, 1), 4);
    due("there are twelve still", x.count(2), 12);
    due("the last is as it was", x.told(11, 8), bits(3));
    x.unsay();
    due("eleven again", x.next(0, 0), 5);
    due("eleven truly", x.count(2), 11);
    x.set(1, 0, 999);
    due("also at 999", x.next(0, 0), 5);
    x = ruled("0", "0", "0");
    x.reader(READER, 0);
    x.set(5, 0, 99);
    x.cup(bits(0, 3), 4);
    x.cup(0, 4);
    due("also by one who isn't steady", x.next(0, 0), 1);
    due("one", x.next(0, 1), 1);
    due("no slip", x.told(0, 5), 99);
    x = new GroundsReadOut();
    x.reader(ARAB, 0);
    x.reader(ARAB, 0);
    x.cup(bits(1), 2);
    x.cup(bits(1), 3);
    due("nothing was said, nothing would follow: the first", x.next(1, 0), 0);
    due("none", x.next(1, 1), 0);
    x.set(0, 0, bits(1, 2));
    due("what was said already is no more", x.next(0, 0), 1);
    due("whoever reads", x.next(1, 0), 1);
    due("three", x.next(1, 1), 3);
    x.set(0, 0, bits(1, 3));
    due("the first is more than what comes behind it", x.next(0, 0), 0);
    due("whoever reads", x.next(1, 0), 0);
    x.cup(bits(11), 4);
    due("nor does a third", x.next(1, 0), 0);
    due("three", x.next(1, 1), 3);
    says("DOGS (one): twos of CUPS (how many) of which one READS the same.");
    x = new GroundsReadOut();
    x.reader(CLERK, 0);
    x.reader(READER, 0);
    x.reader(WIDOW, 0);
    for (int i = 0; i < 3; i++) x.cup(bits(i, 9), i);
    due("a clerk reads them as unlike", x.next(0, 2), 0);
    due("a reader as one", x.next(1, 2), 3);
    due("a widow the first two", x.next(2, 2), 1);
    x = new GroundsReadOut();
    x.reader(READER, 0);
    due("no cups", x.next(0, 2), 0);
    int[] twos = {0, 1, 3, 6, 10, 15};
    for (int i = 0; i < 6; i++) {
      x.cup(1 << i, i);
      due("all read as nothing: " + (i + 1), x.next(0, 2), twos[i]);
    }
    x.set(2, 5, bits(11));
    due("five of them", x.next(0, 2), 10);
    x.set(2, 0, bits(11));
    due("four and two", x.next(0, 2), 7);
    for (int i = 0; i < 6; i++) x.set(2, i, 64 << i);
    due("none", x.next(0, 2), 0);
    x.set(2, 5, 64);
    due("the first and the last", x.next(0, 2), 1);
    says("ALIKE (two): CUPS (bits) of which both READ the same.");
    x = new GroundsReadOut();
    x.reader(READER, 0);
    x.reader(ARAB, 0);
    due("no cups", x.alike(0, 1), 0);
    for (int i = 0; i < 6; i++) x.cup(bits(8, 9, i), i);
    due("all six", x.alike(0, 1), 63);
    due("the other way round", x.alike(1, 0), 63);
    x.reader(CLERK, 0);
    due("none", x.alike(0, 2), 0);
    x.set(2, 0, 0);
    due("the first", x.alike(0, 2), 1);
    x.set(2, 5, 0);
    due("and the last", x.alike(2, 0), 33);
  }

  private static void share() {
    says("SHARE: how many FOLLOW from what was SAID, of 12.");
    long[][] shares = {{0, 1}, {1, 12}, {1, 6}, {1, 4}, {1, 3}, {5, 12}, {1, 2}, {7, 12}, {2, 3}, {3, 4}, {5, 6}, {11, 12}, {1, 1}};
    GroundsReadOut x = chain();
    due("of nothing", x.share(0), 0);
    due("below the line 1", x.share(1), 1);
    for (int n = 1; n <= 12; n++) {
      x.set(0, 0, 1 << 12 - n);
      due(n + " above", x.share(0), shares[n][0]);
      due(n + " below", x.share(1), shares[n][1]);
    }
  }

  // ---- what is told

  /** Two cups of which no two kinds read the same (NUMBER 7, an even HOUR). */
  private static GroundsReadOut unlike() {
    GroundsReadOut x = ruled("3", "9", "9");
    x.cup(bits(0, 1), 11);
    x.cup(bits(0, 1), 11);
    return x;
  }

  private static void told() {
    says("TOLD: a SHEET tells what one READS of CUPS 0, 1, .. (as many as there are at most): the first that is otherwise; NONE;");
    GroundsReadOut x = new GroundsReadOut();
    x.reader(ARAB, 0);
    x.sheet(0, 2, 0);
    due("nothing of no cups", x.tells(0, 0, 0), NONE);
    x.sheet(0, 2, 1);
    due("one of no cups", x.tells(0, 0, 0), BAD);
    for (int i = 0; i < 6; i++) x.cup(64 << i, 0);
    for (int n = 0; n < 6; n++) {
      x.sheet(0, 2, n);
      for (int i = 0; i < n; i++) x.cell(0, i, 64 << i);
      due(n + " of six", x.tells(0, 0, 0), NONE);
    }
    x.sheet(0, 2, 6);
    for (int i = 0; i < 6; i++) {
      due("otherwise at " + i, x.tells(0, 0, 0), i);
      x.cell(0, i, 64 << i);
    }
    due("all six", x.tells(0, 0, 0), NONE);
    x.cell(0, 5, 0);
    x.cell(0, 2, 0);
    due("the first of two", x.tells(0, 0, 0), 2);
    x.sheet(0, 2, 7);
    due("seven of six", x.tells(0, 0, 0), BAD);
    says("KINDS (bits 0 .. 5), NUMBERS (bits 0 .. 9),");
    for (int kind = 0; kind < 6; kind++) {
      x = unlike();
      x.reader(kind, 7);
      x.film(0, 0);
      due("of kind " + kind, x.tells(0, 0, 1), 1 << kind);
      due("it is still of kind " + kind, x.told(0, 6), kind);
      x.cell(0, 1, 0);
      due("the second is otherwise", x.tells(0, 0, 1), kind == WIDOW ? bits(WIDOW) : 0);
      x.sheet(0, 2, 0);
      due("nothing is told: all six", x.tells(0, 0, 1), 63);
    }
    for (int n = 0; n < 10; n++) {
      x = unlike();
      x.set(2, 0, 0);
      x.reader(DREAMER, n);
      x.force(0);
      x.film(0, 0);
      due("of number " + n, x.tells(0, 0, 2), 1 << n);
      due("it is still of number " + n, x.told(0, 4), n);
      x.sheet(0, 2, 0);
      due("nothing is told: all ten", x.tells(0, 0, 2), 1023);
    }
  }

  /** Each of five, each of another kind, is the one that is asked of: what is tried is tried of that one. */
  private static void toldOfEach() {
    says("KINDS (bits 0 .. 5), NUMBERS (bits 0 .. 9),");
    for (int shift = 0; shift < 6; shift++) {
      GroundsReadOut x = unlike();
      for (int one = 0; one < 5; one++) x.reader((one + shift) % 6, 7);
      for (int one = 0; one < 5; one++) {
        int kind = (one + shift) % 6;
        x.film(0, one);
        due("the kind of " + one, x.tells(0, one, 1), 1 << kind);
        boolean byNumber = kind == DREAMER || kind == PROPHET || kind == WIDOW;
        due("the number of " + one, x.tells(0, one, 2), byNumber ? bits(7) : 1023);
        due("the hours of " + one, x.tells(0, one, 3), kind == PROPHET ? 50 : 100);
        due("the texts of " + one, x.tells(0, one, 5), kind == ARAB ? 3 : 2);
      }
    }
  }

  /** How many hours, and the least, by which a READER would read the cup turned by 1. */
  private static void hoursOf(String turns, int now, int many, int least) {
    GroundsReadOut x = ruled(turns, "5", "9");
    x.cup(1, 11);
    x.reader(READER, 0);
    x.set(1, 0, now);
    x.sheet(0, 2, 1);
    x.cell(0, 0, 2);
    due(turns + " at " + now + ": how many", x.tells(0, 0, 3), many);
    due(turns + " at " + now + ": the least", x.tells(0, 0, 4), least);
    due("the hour is as it was", x.told(0, 1), now);
  }
  private static void toldHours() {
    says("HOURS (of 0 .. 99: how many, the least),");
    hoursOf("1", 0, 100, 0);
    hoursOf("1", 999, 100, 0);
    hoursOf("hour = 0", 50, 1, 0);
    hoursOf("hour = 99", 50, 1, 99);
    hoursOf("hour = 99", 99, 1, 99);
    hoursOf("hour = 100", 100, 0, NONE);
    hoursOf("hour = 100", 0, 0, NONE);
    hoursOf("0 - 1 = hour", 0, 0, NONE);
    hoursOf("0 < hour", 0, 99, 1);
    hoursOf("hour < 99", 999, 99, 0);
    hoursOf("98 < hour", 999, 1, 99);
    hoursOf("hour = 7 or hour = 77", 3, 2, 7);
  }

  private static void toldTextsAndReaders() {
    says("TEXTS (bits), were they THE RULE, by which all would be so;");
    GroundsReadOut x = new GroundsReadOut();
    x.cup(1, 11);
    x.cup(1, 11);
    x.reader(READER, 0);
    x.sheet(0, 2, 1);
    x.cell(0, 0, 1);
    due("text 0 alone is there", x.tells(0, 0, 5), 1);
    for (int i = 1; i < 6; i++) write(x, "turns " + i + ";misses 10;bounds 9;");
    for (int i = 0; i < 6; i++) {
      x.force(i);
      x.film(0, 0);
      x.force(5 - i);
      due("by text " + i, x.tells(0, 0, 5), 1 << i);
      due("the rule is as it was", x.count(5), 5 - i);
    }
    x.cell(0, 1, 0);
    due("the second is otherwise", x.tells(0, 0, 5), 0);
    x.sheet(0, 2, 0);
    due("nothing is told: all six", x.tells(0, 0, 5), 63);
    says("READERS (bits) of whom it is so.");
    x = unlike();
    for (int kind = 0; kind < 5; kind++) x.reader(kind, 7);
    for (int one = 0; one < 5; one++) {
      x.film(0, one);
      for (int asked = 0; asked < 5; asked++) due("of " + one + ", whoever is asked", x.tells(0, asked, 6), 1 << one);
      x.cell(0, 1, bits(0));
      due("the second is otherwise", x.tells(0, one, 6), 0);
    }
    x.sheet(0, 2, 0);
    due("nothing is told: all five", x.tells(0, 0, 6), 31);
  }

  // ---- what is drawn

  /** The numbers that are drawn, told by longs: who and which cup, n times. */
  private static int[] draws(int seed, int n) {
    int[] d = new int[2 * n];
    long last = seed & 0xFFFFFFFFL;
    for (int i = 0; i < d.length; i++) {
      last = (last * 1103515245L + 12345L) % 4294967296L;
      d[i] = (int) (last / 512 % 8);
    }
    return d;
  }
  /** ARABS who read nothing, cup c drunk to SAYING c: how many there are then, a SAYING for each cup that was read. */
  private static int drawnOf(int seed, int n, int readers, int cups, int reasons) {
    int[] d = draws(seed, n);
    int all = 0;
    for (int i = 0; i < n && reasons < 12; i++) {
      if (d[2 * i] >= readers || d[2 * i + 1] >= cups) continue;
      all |= 1 << d[2 * i + 1];
      reasons++;
    }
    return Integer.bitCount(all);
  }
  private static GroundsReadOut arabs(int readers, int cups, int reasons) {
    GroundsReadOut x = new GroundsReadOut();
    for (int i = 0; i < readers; i++) x.reader(ARAB, 0);
    for (int i = 0; i < cups; i++) x.cup(0, i);
    for (int i = 0; i < reasons; i++) x.reason(bits(11), 10);
    return x;
  }
  private static final int[] SEEDS = {0, 1, -1, 2, 9, 77, 12345, -98765, 1103515245, MAX, MAX - 1, MIN, MIN + 1};

  private static void drawn() {
    says("DRAWN by a SEED: n READINGS (0 .. 12), in thought (there HOUR may pass 999), as long as there are fewer than 12 REASONS, each time by who is numbered (z >>> 9) % 8, of CUP (y >>> 9) % 8, if there are such, and one is STEADY (z, then y, each being the last one * 1103515245 + 12345, an int; SEED at first): how many SAYINGS FOLLOW from what was SAID then.");
    for (int readers = 0; readers <= 5; readers++) {
      for (int cups = 0; cups <= 6; cups++) {
        GroundsReadOut x = arabs(readers, cups, 0);
        for (int seed : SEEDS) {
          for (int n = 0; n <= 12; n++) due("drawn(" + seed + ", " + n + ")", x.drawn(seed, n), drawnOf(seed, n, readers, cups, 0));
        }
        dues("in thought", 0, x.count(2), x.told(0, 1), readers == 0 ? 0 : x.told(0, 5));
      }
    }
    for (int reasons = 9; reasons <= 12; reasons++) {
      GroundsReadOut x = arabs(5, 6, reasons);
      for (int seed : SEEDS) due(reasons + " reasons", x.drawn(seed, 12), drawnOf(seed, 12, 5, 6, reasons));
      due("as many as ahead", x.count(2), reasons);
    }
    GroundsReadOut x = arabs(5, 6, 0);
    dues("no such n", BAD, x.drawn(0, -1), x.drawn(0, 13), x.drawn(MIN, MIN), x.drawn(MAX, MAX));
    for (int hour = 995; hour <= 999; hour++) {
      x.set(1, 0, hour);
      for (int seed : SEEDS) due("from hour " + hour, x.drawn(seed, 12), drawnOf(seed, 12, 5, 6, 0));
      due("the hour truly", x.told(0, 1), hour);
    }
    hoursInThought();
    slipsInThought();
    eachInThought();
  }
  /** One of five alone is steady: only that one's draws are readings, by that one's kind and number. */
  private static void eachInThought() {
    for (int one = 0; one < 5; one++) {
      for (int seed : SEEDS) {
        GroundsReadOut x = ruled("0", "0", "0");
        for (int i = 0; i < 5; i++) x.reader(i == one ? CLERK : READER, 0);
        for (int i = 0; i < 6; i++) x.cup(bits(11 - i), i);
        int[] d = draws(seed, 12);
        int all = 0;
        for (int i = 0; i < 12; i++) if (d[2 * i] == one && d[2 * i + 1] < 6) all |= 1 << d[2 * i + 1];
        due("only " + one + " is steady, seed " + seed, x.drawn(seed, 12), Integer.bitCount(all));
      }
    }
  }
  /** One reads while HOUR, in thought, is below 1000 + more: so many readings, though n are drawn. */
  private static void hoursInThought() {
    for (int more = 0; more < 4; more++) {
      for (int seed : SEEDS) {
        GroundsReadOut x = ruled("0", "0", "99*(hour < " + (1000 + more) + ")");
        for (int i = 0; i < 5; i++) x.reader(READER, 0);
        for (int i = 0; i < 6; i++) x.cup(0, i);
        x.set(1, 0, 999);
        int[] d = draws(seed, 12);
        int all = 0, hour = 999;
        for (int i = 0; i < 12 && hour < 1000 + more; i++) {
          if (d[2 * i] >= 5 || d[2 * i + 1] >= 6) continue;
          all |= 1 << d[2 * i + 1];
          hour++;
        }
        due("steady till " + (1000 + more) + ", seed " + seed, x.drawn(seed, 12), Integer.bitCount(all));
      }
    }
  }
  /** Each reads nothing, so that each is steady but once. */
  private static void slipsInThought() {
    for (int seed : SEEDS) {
      GroundsReadOut x = ruled("0", "0", "1");
      for (int i = 0; i < 5; i++) x.reader(READER, 0);
      for (int i = 0; i < 6; i++) x.cup(0, i);
      int[] d = draws(seed, 12);
      int all = 0, slipped = 0;
      for (int i = 0; i < 12; i++) {
        if (d[2 * i] >= 5 || d[2 * i + 1] >= 6 || (slipped >> d[2 * i] & 1) == 1) continue;
        slipped |= 1 << d[2 * i];
        all |= 1 << d[2 * i + 1];
      }
      due("steady once, seed " + seed, x.drawn(seed, 12), Integer.bitCount(all));
      due("truly nobody slipped", x.told(0, 5) + x.told(1, 5) + x.told(2, 5) + x.told(3, 5) + x.told(4, 5), 0);
    }
  }

  private static void chance() {
    says("IN m seeds (1 .. 10), SEED and each 1 more (an int), 6 READINGS: of these those by which that is k (0 .. 12) or more.");
    for (int seed : new int[] {0, -5, 77, MAX, MAX - 4, MIN, -1}) {
      for (int m = 1; m <= 10; m++) {
        GroundsReadOut x = arabs(5, 6, 0);
        for (int k = 0; k <= 12; k++) {
          int many = 0, d = m;
          for (int i = 0; i < m; i++) if (drawnOf(seed + i, 6, 5, 6, 0) >= k) many++;
          while (many % d != 0 || m % d != 0) d--;
          due("chance(" + seed + ", " + m + ", " + k + ", 0)", x.chance(seed, m, k, 0), many / d);
          due("chance(" + seed + ", " + m + ", " + k + ", 1)", x.chance(seed, m, k, 1), m / d);
        }
        dues("in thought", 0, x.count(2), x.told(0, 1), x.told(0, 5));
      }
    }
    GroundsReadOut x = new GroundsReadOut();
    dues("no such m", NO, x.chance(0, 0, 0, 0), x.chance(0, 11, 0, 0), x.chance(0, -1, 0, 0), x.chance(0, MIN, 0, 0), x.chance(0, MAX, 0, 0));
    dues("no such k", NO, x.chance(0, 1, -1, 0), x.chance(0, 1, 13, 0), x.chance(0, 1, MIN, 0), x.chance(0, 1, MAX, 0));
    x.set(0, 0, 4095);
    due("twelve always", x.chance(0, 10, 12, 0), 1);
    due("of one", x.chance(0, 10, 12, 1), 1);
  }

  // ---- the image, sheets

  private static void image() {
    says("AN IMAGE keeps SAID, HOUR, CUPS, REASONS, NUMBERS, SLIPS, THE RULE (READERS that came since go).");
    GroundsReadOut x = new GroundsReadOut();
    due("of nothing", x.image(), 0);
    x.set(0, 0, 4095);
    x.set(1, 0, 999);
    for (int i = 0; i < 6; i++) x.cup(4095, 11);
    for (int i = 0; i < 12; i++) x.reason(1, 1);
    for (int i = 0; i < 5; i++) x.reader(4, 9);
    due("back to nothing", x.back(), 0);
    dues("nothing is there", 0, x.told(0, 0), x.told(0, 1), x.count(0), x.count(1), x.count(2));
    dues("they go", BAD, x.told(0, 2), x.told(0, 8), x.told(0, 6), x.sees(0, 0, 0));
    for (int i = 0; i < 6; i++) due("cups come anew", x.cup(i, i), i);
    for (int i = 0; i < 12; i++) due("reasons come anew", x.reason(0, i), i);
    for (int i = 0; i < 5; i++) due("readers come anew", x.reader(i, i), i);
    for (int i = 0; i < 5; i++) x.set(5, i, 90 + i);
    x.set(0, 0, 1234);
    x.set(1, 0, 998);
    write(x, "turns 1;misses 1;bounds 1;");
    x.force(1);
    due("of a full house", x.image(), 5);
    for (int i = 0; i < 12; i++) x.unsay();
    for (int i = 0; i < 12; i++) x.reason(1 << i, 11 - i);
    for (int i = 0; i < 6; i++) x.unsay();
    for (int i = 0; i < 6; i++) x.set(2, i, 4000);
    for (int i = 0; i < 6; i++) x.set(3, i, 11);
    for (int i = 0; i < 5; i++) x.set(4, i, 9);
    for (int i = 0; i < 5; i++) x.set(5, i, 0);
    x.set(0, 0, 0);
    x.set(1, 0, 0);
    x.force(0);
    due("back to the full house", x.back(), 5);
    due("said", x.told(0, 0), 1234);
    due("hour", x.told(0, 1), 998);
    for (int i = 0; i < 6; i++) due("grounds", x.told(i, 2), i);
    for (int i = 0; i < 6; i++) due("to", x.told(i, 3), i);
    due("reasons", x.count(2), 12);
    for (int i = 0; i < 12; i++) due("set", x.told(i, 8), 0);
    for (int i = 0; i < 12; i++) due("saying", x.told(i, 9), i);
    for (int i = 0; i < 5; i++) due("number", x.told(i, 4), i);
    for (int i = 0; i < 5; i++) due("slips", x.told(i, 5), 90 + i);
    for (int i = 0; i < 5; i++) due("kind", x.told(i, 6), i);
    due("the rule", x.count(5), 1);
    imageIsNoMore();
  }
  /** What an image doesn't keep stays as it is, and what comes after it doesn't change it. */
  private static void imageIsNoMore() {
    GroundsReadOut x = new GroundsReadOut();
    x.reader(READER, 1);
    x.cup(1, 5);
    x.image();
    write(x, "turns 4;misses 1;bounds 1;");
    feedAll(x, "turns");
    x.sheet(2, 1, 3);
    x.force(1);
    due("back", x.back(), 1);
    due("texts stay", x.count(3), 2);
    due("the tape stays", x.count(4), 5);
    due("sheets stay", x.cell(2, 2, 0), 1);
    due("the rule is text 0", x.sees(0, 0, 0), 1);
    due("text 1 can be forced", x.force(1), 0);
    due("it turns", x.sees(0, 0, 0), 16);
    due("once more back", x.back(), 1);
    due("the rule is text 0", x.count(5), 0);
    x.read(0, 0);
    x.set(2, 0, 77);
    due("and again", x.back(), 1);
    due("no reasons", x.count(2), 0);
    due("the cup", x.told(0, 2), 1);
    x.set(2, 0, 78);
    due("a later image", x.image(), 1);
    x.set(2, 0, 79);
    x.back();
    due("is the one that counts", x.told(0, 2), 78);
  }

  private static void sheets() {
    says("SHEETS 0 .. 3 are rows of numbers, or missing (as all are at first): of sort 0 bytes, 1 shorts, 2 ints.");
    GroundsReadOut x = new GroundsReadOut();
    x.reader(ARAB, 0);
    for (int s = 0; s < 4; s++) {
      dues("missing at first", NOTHING, x.cell(s, 0, 0), x.tells(s, 0, 0), x.copy(s, 0, s, 0, 0), x.house(s, 0, 0, 0));
      due("a row of its own", x.sheet(s, s % 3, s + 1), 1);
    }
    for (int s = 0; s < 4; s++) {
      due("the last place of " + s, x.cell(s, s, 0), 1);
      due("outside of " + s, x.cell(s, s + 1, 0), OUTSIDE);
      for (int sort = 0; sort < 3; sort++) due("the sort of " + s, x.house(s, sort, 0, 0), sort == s % 3 ? 0 : OTHER);
    }
    for (int s : new int[] {-1, 4, MIN, MAX}) {
      dues("no sheet " + s, BAD, x.sheet(s, 0, 0), x.sheet(s, -1, 0), x.cell(s, 0, 0), x.tells(s, 0, 0), x.film(s, 0), x.copy(s, 0, 0, 0, 0),
          x.copy(0, 0, s, 0, 0), x.house(s, 0, 0, 0));
    }
    for (int sort : new int[] {-2, 3, MIN, MAX}) dues("no sort " + sort, BAD, x.sheet(0, sort, 0), x.house(0, sort, 0, 0));
    due("no sort -1 where a row is asked", x.house(0, -1, 0, 0), BAD);
  }

  public static void main(String[] args) throws IOException {
    follows();
    base();
    why();
    peace();
    strike();
    vain();
    next();
    share();
    told();
    toldOfEach();
    toldHours();
    toldTextsAndReaders();
    drawn();
    chance();
    image();
    sheets();
    end(args);
  }
}
