import java.io.IOException;
import java.util.ArrayList;
import java.util.List;

/** The edges of each promise's own words, 1 to 30: what it answers at them, and the order of its refusals. */
public final class EdgesOfPromisesTest extends Look {

  private static void promise1() {
    says("Nothing SAID, no CUPS, no READERS.");
    GroundsReadOut x = new GroundsReadOut();
    dues("nothing", 0, x.told(0, 0), x.told(0, 1), x.count(0), x.count(1), x.count(2), x.count(4), x.count(5));
    due("text 0", x.count(3), 1);
    dues("none is there", BAD, x.told(0, 2), x.told(0, 3), x.told(0, 4), x.told(0, 5), x.told(0, 6), x.told(0, 7), x.told(0, 8), x.told(0, 9));
    dues("nothing follows", 0, x.follows(0, 0), x.follows(0, 1), x.follows(0, 2), x.share(0), x.best(0), x.best(2), x.drawn(0, 12));
    due("no image", x.back(), STATE);
    due("no reason", x.unsay(), STATE);
    // What one object does is not seen by another.
    x.set(0, 0, 7);
    x.cup(1, 1);
    x.reader(1, 1);
    x.reason(1, 1);
    x.feed(1);
    x.sheet(0, 0, 1);
    x.image();
    write(x, "turns 1;misses 1;bounds 1;");
    GroundsReadOut y = new GroundsReadOut();
    dues("nothing", 0, y.told(0, 0), y.count(0), y.count(1), y.count(2), y.count(4), y.count(5));
    due("text 0 alone", y.count(3), 1);
    due("no image", y.back(), STATE);
    due("no sheet", y.cell(0, 0, 0), NOTHING);
  }

  private static void promise2() {
    says("SAID (what 0; of does not matter), HOUR (1; nor), GROUNDS (2), TO which SAYING (3) of a CUP, NUMBER (4), SLIPS (5) of one of READERS becomes v: what it was. BAD.");
    GroundsReadOut x = new GroundsReadOut();
    int[] most = {4095, 999, 4095, 11, 9, 99}, anyone = {MIN, -1, 0, 5, 6, MAX};
    for (int of : anyone) {
      due("said, of " + of, x.set(0, of, 4095), 0);
      due("said, of " + of, x.set(0, of, 0), 4095);
      due("hour, of " + of, x.set(1, of, 999), 0);
      due("hour, of " + of, x.set(1, of, 0), 999);
      for (int what = 2; what < 6; what++) due("none is there: " + what + " of " + of, x.set(what, of, 0), BAD);
    }
    for (int i = 0; i < 6; i++) x.cup(0, 0);
    for (int i = 0; i < 5; i++) x.reader(0, 0);
    for (int what = 0; what < 6; what++) {
      int many = what < 4 ? 6 : 5;
      for (int of = 0; of < (what < 2 ? 1 : many); of++) {
        dues("beyond the bounds of " + what, BAD, x.set(what, of, -1), x.set(what, of, most[what] + 1), x.set(what, of, MIN), x.set(what, of, MAX));
        due("it was 0", x.set(what, of, most[what]), 0);
        due("it was the most", x.set(what, of, most[what] - 1), most[what]);
        due("it is the most but one", x.told(of, what), most[what] - 1);
        due("it was the most but one", x.set(what, of, 0), most[what] - 1);
      }
      if (what > 1) dues("of none", BAD, x.set(what, -1, 0), x.set(what, many, 0), x.set(what, MIN, 0), x.set(what, MAX, 0));
    }
    dues("no such what", BAD, x.set(-1, 0, 0), x.set(6, 0, 0), x.set(7, 0, 0), x.set(MIN, 0, 0), x.set(MAX, 0, 0));
    x.set(2, 3, 77);
    x.set(4, 3, 7);
    int cups = 0, readers = 0;
    for (int i = 0; i < 6; i++) cups += x.told(i, 2);
    for (int i = 0; i < 5; i++) readers += x.told(i, 4) + x.told(i, 5);
    due("only that cup's", cups, 77);
    due("only that one's", readers, 7);
  }

  /** What is told of all there is, in one row. */
  private static List<Integer> row(GroundsReadOut x) {
    List<Integer> all = new ArrayList<>();
    for (int what = 0; what < 10; what++) {
      int many = what < 2 ? 1 : what < 4 ? 6 : what < 8 ? 5 : 12;
      for (int of = 0; of < many; of++) if (what != 7) all.add(x.told(of, what));
    }
    return all;
  }
  /** A house that is full, in which no two numbers that could be taken for one another are the same. */
  private static GroundsReadOut fullHouse() {
    GroundsReadOut x = new GroundsReadOut();
    x.set(0, 0, 3000);
    x.set(1, 0, 900);
    for (int i = 0; i < 6; i++) x.cup(2000 + i, 5 + i);
    for (int i = 0; i < 5; i++) x.reader(i, i + 4);
    for (int i = 0; i < 5; i++) x.set(5, i, 20 + i);
    for (int i = 0; i < 12; i++) x.reason(4095 - (1 << i), i);
    return x;
  }
  private static void promise2alone() {
    says("SAID (what 0; of does not matter), HOUR (1; nor), GROUNDS (2), TO which SAYING (3) of a CUP, NUMBER (4), SLIPS (5) of one of READERS becomes v: what it was. BAD.");
    int at = 0;
    for (int what = 0; what < 6; what++) {
      for (int of = 0; of < (what < 2 ? 1 : what < 4 ? 6 : 5); of++) {
        GroundsReadOut x = fullHouse();
        List<Integer> due = row(x);
        due("it was", x.set(what, of, what == 4 ? 3 : 2), due.set(at, what == 4 ? 3 : 2));
        same("set(" + what + ", " + of + ", ..)", row(x), due);
        at++;
      }
    }
  }

  private static void promise3() {
    says("A CUP: its number. BAD; FULL.");
    GroundsReadOut x = new GroundsReadOut();
    dues("bad", BAD, x.cup(-1, 0), x.cup(4096, 0), x.cup(0, -1), x.cup(0, 12), x.cup(-1, 12));
    due("the least", x.cup(0, 0), 0);
    due("the last", x.cup(4095, 11), 1);
    due("its own saying may be of it", x.cup(1 << 5, 5), 2);
    for (int i = 3; i < 6; i++) due("number", x.cup(9, 9), i);
    dues("full", FULL, x.cup(0, 0), x.cup(4095, 11));
    dues("bad ahead of full", BAD, x.cup(-1, 0), x.cup(4096, 0), x.cup(0, -1), x.cup(0, 12));
    due("six", x.count(1), 6);
  }

  private static void promise4() {
    says("A REASON: its number. BAD: set, saying, it is of the set; FULL.");
    GroundsReadOut x = new GroundsReadOut();
    dues("set", BAD, x.reason(-1, 0), x.reason(4096, 0));
    dues("saying", BAD, x.reason(0, -1), x.reason(0, 12));
    for (int k = 0; k < 12; k++) dues("it is of the set", BAD, x.reason(1 << k, k), x.reason(4095, k));
    due("none came", x.count(2), 0);
    for (int k = 0; k < 12; k++) due("all but it", x.reason(4095 - (1 << k), k), k);
    dues("full", FULL, x.reason(0, 0), x.reason(4094, 0));
    dues("bad ahead of full", BAD, x.reason(-1, 0), x.reason(4096, 0), x.reason(0, -1), x.reason(0, 12), x.reason(1, 0));
    due("eleven", x.unsay(), 11);
    due("one more has room", x.reason(0, 0), 11);
    due("a reason that is there already", new GroundsReadOut().reason(0, 0), 0);
  }

  private static void promise5() {
    says("The last REASON is none any more: how many there are. STATE: there is none.");
    GroundsReadOut x = new GroundsReadOut();
    due("none", x.unsay(), STATE);
    for (int i = 0; i < 12; i++) x.reason(0, i);
    for (int i = 11; i >= 0; i--) {
      due("the last goes", x.unsay(), i);
      due("it bears no more", x.follows(0, 0), (1 << i) - 1);
      due("it is none", x.told(i, 9), BAD);
    }
    dues("none", STATE, x.unsay(), x.unsay());
    due("none below 0", x.count(2), 0);
    due("the first anew", x.reason(0, 7), 0);
    due("a reading is one, too", x.cup(1, 5) + x.reader(ARAB, 0) + x.read(0, 0), 1);
    due("it goes", x.unsay(), 1);
    due("the hour stays", x.told(0, 1), 1);
  }

  private static void promise6() {
    says("One of READERS: the number. BAD; FULL.");
    GroundsReadOut x = new GroundsReadOut();
    dues("bad", BAD, x.reader(-1, 0), x.reader(6, 0), x.reader(0, -1), x.reader(0, 10), x.reader(6, 10));
    due("the least", x.reader(0, 0), 0);
    due("the last", x.reader(5, 9), 1);
    for (int i = 2; i < 5; i++) due("number", x.reader(5, 9), i);
    dues("full", FULL, x.reader(0, 0), x.reader(5, 9));
    dues("bad ahead of full", BAD, x.reader(-1, 0), x.reader(6, 0), x.reader(0, -1), x.reader(0, 10));
    due("five", x.count(0), 5);
  }

  private static void promise7() {
    says("What 0 .. 5 as of set(), 6 KIND of one of READERS, 7 whether one is STEADY (1, 0); 8 the set of a REASON, 9 which SAYING it BEARS. BAD.");
    GroundsReadOut x = new GroundsReadOut();
    x.set(0, 0, 4095);
    x.set(1, 0, 999);
    for (int of : new int[] {MIN, -1, 0, 99, MAX}) {
      due("said, of " + of, x.told(of, 0), 4095);
      due("hour, of " + of, x.told(of, 1), 999);
    }
    for (int i = 0; i < 6; i++) x.cup(4000 + i, 11 - i);
    for (int i = 0; i < 5; i++) x.reader(5 - i, 9 - i);
    for (int i = 0; i < 12; i++) x.reason(i == 0 ? 2048 : 1 << i - 1, i);
    int[] many = {0, 0, 6, 6, 5, 5, 5, 5, 12, 12};
    for (int what = 2; what < 10; what++) {
      dues("beyond, what " + what, BAD, x.told(-1, what), x.told(many[what], what), x.told(MIN, what), x.told(MAX, what));
    }
    for (int i = 0; i < 6; i++) due("grounds", x.told(i, 2), 4000 + i);
    for (int i = 0; i < 6; i++) due("to", x.told(i, 3), 11 - i);
    for (int i = 0; i < 5; i++) due("number", x.told(i, 4), 9 - i);
    for (int i = 0; i < 5; i++) due("slips", x.told(i, 5), 0);
    for (int i = 0; i < 5; i++) due("kind", x.told(i, 6), 5 - i);
    for (int i = 0; i < 5; i++) due("steady", x.told(i, 7), 1);
    for (int i = 0; i < 12; i++) due("set", x.told(i, 8), i == 0 ? 2048 : 1 << i - 1);
    for (int i = 0; i < 12; i++) due("saying", x.told(i, 9), i);
    dues("no such what", BAD, x.told(0, -1), x.told(0, 10), x.told(0, 11), x.told(0, MIN), x.told(0, MAX));
    for (int i = 0; i < 5; i++) x.set(5, i, 99);
    int[] steady = {1, 0, 1, 0, 1};
    for (int i = 0; i < 5; i++) due("steady with 99 slips", x.told(i, 7), steady[i]);
  }

  private static void promise8() {
    says("Of one of READERS and a CUP: what one SEES (what 0; bits), OVERLOOKS (1; bits), READS (2; bits). BAD.");
    GroundsReadOut x = new GroundsReadOut();
    due("nobody, no cup", x.sees(0, 0, 0), BAD);
    x.reader(READER, 0);
    due("no cup", x.sees(0, 0, 0), BAD);
    for (int i = 0; i < 6; i++) x.cup(4095, 6 + i);
    for (int i = 1; i < 5; i++) x.reader(READER, 0);
    due("all is seen", x.sees(4, 5, 0), 4095);
    due("11 is overlooked", x.sees(4, 5, 1), 2048);
    due("the rest is read", x.sees(4, 5, 2), 2047);
    due("of the first cup", x.sees(0, 0, 2), 4095 - 64);
    dues("no such one", BAD, x.sees(-1, 0, 0), x.sees(5, 0, 0), x.sees(MIN, 0, 0), x.sees(MAX, 0, 0));
    dues("no such cup", BAD, x.sees(0, -1, 0), x.sees(0, 6, 0), x.sees(0, MIN, 0), x.sees(0, MAX, 0));
    dues("no such what", BAD, x.sees(0, 0, -1), x.sees(0, 0, 3), x.sees(0, 0, MIN), x.sees(0, 0, MAX));
    x = new GroundsReadOut();
    x.cup(0, 0);
    due("a cup, nobody", x.sees(0, 0, 0), BAD);
  }

  private static void promise9() {
    says("A byte (0 .. 255) comes behind THE TAPE: how many it has. BAD; FULL.");
    GroundsReadOut x = new GroundsReadOut();
    dues("no byte", BAD, x.feed(-1), x.feed(256), x.feed(MIN), x.feed(MAX));
    due("none came", x.count(4), 0);
    due("0", x.feed(0), 1);
    due("255", x.feed(255), 2);
    for (int i = 3; i <= 160; i++) due("how many", x.feed(32), i);
    dues("full", FULL, x.feed(32), x.feed(0), x.feed(255));
    dues("bad ahead of full", BAD, x.feed(-1), x.feed(256));
    due("160 stay", x.count(4), 160);
    due("they are no text", x.text(), -100);
    due("the first anew", x.feed(32), 1);
    x = new GroundsReadOut();
    feedAll(x, "turns 1;misses 1;bounds 1");
    dues("no byte", BAD, x.feed(-1), x.feed(256 + ';'));
    due("behind", x.feed(';'), 26);
    due("a text", x.text(), 1);
  }

  private static void promise10() {
    says("THE TAPE, which is empty then, is a TEXT: its number; -100 less the place of its FAULT. FULL: no TEXT more has room (THE TAPE stays).");
    GroundsReadOut x = new GroundsReadOut();
    due("an empty tape", x.text(), -100);
    due("a fault", write(x, "turns 1;misses 1;bounds 1;;"), -126);
    due("it is empty then", x.count(4), 0);
    due("no text came", x.count(3), 1);
    for (int i = 1; i < 6; i++) {
      due("number", write(x, "turns " + i + ";misses 1;bounds 1;"), i);
      due("it is empty then", x.count(4), 0);
      due("how many", x.count(3), i + 1);
      if (i < 5) due("a fault between", write(x, "?"), -100);
    }
    due("the rule is as it was", x.count(5), 0);
    due("full, with an empty tape", x.text(), FULL);
    due("full", write(x, "turns 1;misses 1;bounds 1;"), FULL);
    due("the tape stays", x.count(4), 26);
    due("full, with a fault, too", write(x, "?"), FULL);
    due("the tape stays", x.count(4), 27);
    x = new GroundsReadOut();
    for (int i = 0; i < 160; i++) x.feed(i == 159 ? '?' : ' ');
    due("the last place", x.text(), -100 - 159);
    for (int i = 0; i < 160; i++) x.feed(' ');
    due("behind it", x.text(), -100 - 160);
  }

  private static void promise11() {
    says("A TEXT is THE RULE: which was. BAD.");
    GroundsReadOut x = new GroundsReadOut();
    due("text 0 is it already", x.force(0), 0);
    dues("none such", BAD, x.force(-1), x.force(1), x.force(5), x.force(6), x.force(MIN), x.force(MAX));
    for (int i = 1; i < 6; i++) {
      write(x, "turns " + i + ";misses 1;bounds 1;");
      dues("none such", BAD, x.force(-1), x.force(i + 1));
      due("which was", x.force(i), i - 1);
      due("which is", x.count(5), i);
    }
    due("the same again", x.force(5), 5);
    due("the first again", x.force(0), 5);
  }

  private static void promise12() {
    says("READ OUT, truly: what one READS. BAD; STATE: one isn't STEADY, HOUR is 999; FULL: there are 12 REASONS.");
    GroundsReadOut x = new GroundsReadOut();
    due("nobody, no cup", x.read(0, 0), BAD);
    for (int i = 0; i < 5; i++) x.reader(READER, 0);
    due("no cup", x.read(0, 0), BAD);
    for (int i = 0; i < 6; i++) x.cup(4095, i);
    due("the last one, of the last cup", x.read(4, 5), 4095 - 32);
    due("a reason", x.told(0, 8), 4095 - 32);
    due("for 5", x.told(0, 9), 5);
    due("an hour", x.told(0, 1), 1);
    dues("no such one", BAD, x.read(-1, 0), x.read(5, 0), x.read(MIN, 0), x.read(MAX, 0));
    dues("no such cup", BAD, x.read(0, -1), x.read(0, 6), x.read(0, MIN), x.read(0, MAX));
    x.set(5, 0, 8);
    due("steady yet", x.read(0, 0), 4094);
    x.set(5, 0, 9);
    due("not steady", x.read(0, 0), STATE);
    due("bad ahead of it", x.read(0, 6), BAD);
    due("the next one is", x.read(1, 0), 4094);
    x.set(1, 0, 999);
    due("at 999", x.read(1, 0), STATE);
    due("bad ahead of it", x.read(5, 0), BAD);
    x.set(1, 0, 998);
    due("at 998", x.read(1, 0), 4094);
    due("that makes 999", x.told(0, 1), 999);
    x.set(1, 0, 0);
    while (x.count(2) < 11) x.reason(0, 0);
    due("the twelfth reason", x.read(1, 0), 4094);
    due("no thirteenth", x.read(1, 0), FULL);
    due("an hour for the twelfth alone", x.told(0, 1), 1);
    due("who isn't steady, ahead of full", x.read(0, 0), STATE);
    x.set(1, 0, 999);
    due("the last hour, ahead of full", x.read(1, 0), STATE);
    due("bad ahead of all", x.read(1, 6), BAD);
    due("twelve", x.count(2), 12);
  }

  private static void promise13() {
    says("What FOLLOWS from a set (what 0; bits), STEPS (1), whether it CLASHES (2; 1, 0). BAD.");
    GroundsReadOut x = new GroundsReadOut();
    x.reason(bits(0), 6);
    dues("bad set", BAD, x.follows(-1, 0), x.follows(4096, 0), x.follows(MIN, 1), x.follows(MAX, 2));
    dues("bad what", BAD, x.follows(0, -1), x.follows(0, 3), x.follows(0, MIN), x.follows(0, MAX));
    due("bits", x.follows(1, 0), 65);
    due("steps", x.follows(1, 1), 1);
    due("clashes", x.follows(1, 2), 1);
    dues("nothing", 0, x.follows(0, 0), x.follows(0, 1), x.follows(0, 2));
    due("all", x.follows(4095, 0), 4095);
    due("in no steps", x.follows(4095, 1), 0);
    x.set(0, 0, 4095);
    due("what was said doesn't matter", x.follows(2, 0), 2);
  }

  private static void promise14() {
    says("BASE (what 0), how many SAYINGS it is of (1), PEACE (2; NONE), how many SAYINGS it is of (3; NONE), STRIKE (4; NONE), VAIN (5; bits). BAD.");
    GroundsReadOut x = new GroundsReadOut();
    dues("bad", BAD, x.best(-1), x.best(6), x.best(MIN), x.best(MAX));
    due("no reasons", x.best(4), NONE);
    x.reason(0, 0);
    x.reason(0, 6);
    x.set(0, 0, bits(0, 1, 2));
    due("base", x.best(0), bits(1, 2));
    due("of two", x.best(1), 2);
    dues("no peace", NONE, x.best(2), x.best(3));
    due("strike the second: then 0, 1, 2 are at peace", x.best(4), 1);
    x.set(0, 0, bits(6, 1, 2));
    due("strike the first: then 6, 1, 2 are", x.best(4), 0);
    x.set(0, 0, bits(0, 1, 2));
    due("none in vain", x.best(5), 0);
    x.reason(bits(1), 0);
    due("the third in vain", x.best(5), 4);
    x.unsay();
    x.unsay();
    due("peace", x.best(2), bits(0, 1, 2));
    due("of three", x.best(3), 3);
    due("the one", x.best(4), 0);
  }

  private static void promise15() {
    says("WHY (what 0; bits; NONE), of how many SAYINGS (1; NONE). BAD.");
    GroundsReadOut x = new GroundsReadOut();
    dues("no saying", BAD, x.why(-1, 0), x.why(12, 0), x.why(MIN, 1), x.why(MAX, 1), x.why(32, 0));
    dues("bad what", BAD, x.why(0, -1), x.why(0, 2), x.why(0, MIN), x.why(0, MAX));
    for (int k : new int[] {0, 11}) {
      dues("none", NONE, x.why(k, 0), x.why(k, 1));
      x.reason(bits(3, 5), k);
      due("bits", x.why(k, 0), bits(3, 5));
      due("two", x.why(k, 1), 2);
      x.reason(0, k);
      dues("nothing is needed", 0, x.why(k, 0), x.why(k, 1));
    }
  }

  private static void promise16() {
    says("NEXT (what 0; NONE), how many would FOLLOW then (1; as so, if NONE), DOGS (2). BAD.");
    GroundsReadOut x = new GroundsReadOut();
    dues("nobody", BAD, x.next(0, 0), x.next(0, 1), x.next(0, 2));
    for (int i = 0; i < 5; i++) x.reader(ARAB, 0);
    x.set(0, 0, 3);
    due("no cups", x.next(4, 0), NONE);
    due("as so", x.next(4, 1), 2);
    due("no twos", x.next(4, 2), 0);
    for (int i = 0; i < 6; i++) x.cup(i == 5 ? 1 : 1 << 11, i == 5 ? 9 : 4);
    due("the last", x.next(4, 0), 5);
    due("three", x.next(4, 1), 3);
    due("ten twos", x.next(4, 2), 10);
    dues("no such one", BAD, x.next(-1, 0), x.next(5, 0), x.next(MIN, 1), x.next(MAX, 2));
    dues("bad what", BAD, x.next(0, -1), x.next(0, 3), x.next(0, MIN), x.next(0, MAX));
    while (x.count(2) < 12) x.reason(1 << 8, 7);
    due("twelve reasons", x.next(4, 0), NONE);
    due("as so", x.next(4, 1), 2);
    due("ten twos still", x.next(4, 2), 10);
  }

  private static void promise17() {
    says("ALIKE. BAD: no such two, one and the same.");
    GroundsReadOut x = new GroundsReadOut();
    dues("nobody", BAD, x.alike(0, 0), x.alike(0, 1));
    x.reader(READER, 0);
    dues("one alone", BAD, x.alike(0, 0), x.alike(0, 1), x.alike(1, 0));
    for (int i = 1; i < 5; i++) x.reader(READER, 0);
    x.cup(1, 1);
    for (int a = -1; a < 6; a++) {
      for (int b = -1; b < 6; b++) due("alike(" + a + ", " + b + ")", x.alike(a, b), a == b || a < 0 || b < 0 || a > 4 || b > 4 ? BAD : 1);
    }
    dues("no such two", BAD, x.alike(MIN, 0), x.alike(MAX, 0), x.alike(0, MIN), x.alike(0, MAX), x.alike(MAX, MAX));
  }

  private static void promise18() {
    says("SHARE: part 0 above, 1 below the line, in lowest terms. NO: part.");
    GroundsReadOut x = new GroundsReadOut();
    due("none above", x.share(0), 0);
    due("1 below", x.share(1), 1);
    dues("no part", NO, x.share(-1), x.share(2), x.share(MIN), x.share(MAX));
    x.set(0, 0, 2047);
    due("11 above", x.share(0), 11);
    due("12 below", x.share(1), 12);
    x.reason(0, 11);
    dues("all", 1, x.share(0), x.share(1));
  }

  private static void promise19() {
    says("TOLD of one: the first that is otherwise (what 0; NONE), KINDS (1), NUMBERS (2), HOURS: how many (3), the least (4; NONE), TEXTS (5), READERS (6). BAD: SHEET, none such, what; -11; BAD: it tells more than there are CUPS.");
    GroundsReadOut x = new GroundsReadOut();
    due("nobody", x.tells(0, 0, 0), BAD);
    for (int i = 0; i < 5; i++) x.reader(i, 0);
    for (int what = 0; what < 7; what++) {
      due("missing", x.tells(3, 4, what), NOTHING);
      dues("bad ahead of missing", BAD, x.tells(-1, 4, what), x.tells(4, 4, what), x.tells(3, -1, what), x.tells(3, 5, what));
    }
    dues("bad ahead of missing", BAD, x.tells(3, 0, -1), x.tells(3, 0, 7), x.tells(3, 0, MIN), x.tells(3, 0, MAX));
    x.sheet(3, 0, 0);
    int[] nothing = {NONE, 63, 1023, 100, 0, 1, 31};
    for (int what = 0; what < 7; what++) due("nothing of no cups, what " + what, x.tells(3, 4, what), nothing[what]);
    x.sheet(3, 0, 1);
    for (int what = 0; what < 7; what++) due("one of no cups", x.tells(3, 4, what), BAD);
    for (int i = 0; i < 6; i++) x.cup(4095, 11);
    x.sheet(3, 0, 6);
    int[] none = {0, 0, 0, 0, NONE, 0, 0};
    for (int what = 0; what < 7; what++) due("six of six, none is so, what " + what, x.tells(3, 0, what), none[what]);
    x.sheet(3, 0, 7);
    for (int what = 0; what < 7; what++) due("seven of six", x.tells(3, 0, what), BAD);
    x.sheet(3, 0, 40);
    due("forty of six", x.tells(3, 0, 0), BAD);
    // What is told as a byte or short of a reading is below 0, if its highest bit is set.
    x = new GroundsReadOut();
    x.reader(ARAB, 0);
    x.cup(0, 11);
    for (int v : new int[] {0, 127, 128, 255, 256, 2047}) {
      x.set(2, 0, v);
      for (int sort = 0; sort < 3; sort++) {
        x.sheet(0, sort, 1);
        x.cell(0, 0, v);
        due(v + " in sort " + sort, x.tells(0, 0, 0), sort == 0 && v > 127 ? 0 : NONE);
      }
    }
  }

  private static void promise20() {
    says("A SHEET truly becomes what one READS of all CUPS (shorts): how many CUPS. BAD.");
    GroundsReadOut x = new GroundsReadOut();
    due("nobody", x.film(0, 0), BAD);
    due("still missing", x.cell(0, 0, 0), NOTHING);
    for (int i = 0; i < 5; i++) x.reader(ARAB, 0);
    for (int n = 0; n <= 6; n++) {
      x.sheet(3, 2, 40);
      due("so many", x.film(3, 4), n);
      due("of shorts", x.house(3, 1, 0, 0), 0);
      if (n > 0) due("the last place", x.copy(3, n - 1, 3, 0, 1), 1);
      due("outside", x.copy(3, n, 3, 0, 1), OUTSIDE);
      due("film", x.film(3, 4), n);
      due("so it is", x.tells(3, 4, 0), NONE);
      x.cup(4095 - n, 11);
    }
    due("a seventh has no room", x.count(1), 6);
    dues("no such sheet", BAD, x.film(-1, 0), x.film(4, 0), x.film(MIN, 0), x.film(MAX, 0));
    dues("no such one", BAD, x.film(0, -1), x.film(0, 5), x.film(0, MIN), x.film(0, MAX));
    dues("nothing is read out", 0, x.count(2), x.told(0, 1), x.told(4, 5));
    x.set(2, 0, 1);
    due("the sheet stays, when the cup changes", x.tells(3, 4, 0), 0);
  }

  private static void promise21and22() {
    says("DRAWN. BAD: n.");
    GroundsReadOut x = new GroundsReadOut();
    x.set(0, 0, 7);
    for (int seed : new int[] {MIN, -1, 0, 1, MAX}) {
      dues("any seed", 3, x.drawn(seed, 0), x.drawn(seed, 12));
      dues("no such n", BAD, x.drawn(seed, -1), x.drawn(seed, 13), x.drawn(seed, MIN), x.drawn(seed, MAX));
    }
    says("IN m seeds: part 0 above, 1 below the line, in lowest terms. NO: m, k, part.");
    for (int seed : new int[] {MIN, -1, 0, 1, MAX}) {
      for (int m = 1; m <= 10; m++) {
        dues("all: 3 or more", 1, x.chance(seed, m, 3, 0), x.chance(seed, m, 3, 1), x.chance(seed, m, 0, 0), x.chance(seed, m, 0, 1));
        dues("none: 4 or more", 0, x.chance(seed, m, 4, 0), x.chance(seed, m, 12, 0));
        dues("of one", 1, x.chance(seed, m, 4, 1));
      }
      dues("m", NO, x.chance(seed, 0, 0, 0), x.chance(seed, 11, 0, 0), x.chance(seed, MIN, 0, 0), x.chance(seed, MAX, 0, 0));
      dues("k", NO, x.chance(seed, 1, -1, 0), x.chance(seed, 1, 13, 0), x.chance(seed, 1, MIN, 0), x.chance(seed, 1, MAX, 0));
      dues("part", NO, x.chance(seed, 1, 0, -1), x.chance(seed, 1, 0, 2), x.chance(seed, 1, 0, MIN), x.chance(seed, 1, 0, MAX));
    }
  }

  private static void promise23and24() {
    GroundsReadOut x = new GroundsReadOut();
    says("All that it keeps is as in THE IMAGE: how many READERS. STATE: there is none.");
    dues("none", STATE, x.back(), x.back());
    x.reader(0, 0);
    due("none still", x.back(), STATE);
    due("one stays", x.count(0), 1);
    for (int n = 1; n <= 5; n++) {
      says("AN IMAGE is kept: how many READERS.");
      due("image", x.image(), n);
      says("All that it keeps is as in THE IMAGE: how many READERS. STATE: there is none.");
      x.reader(5, 5);
      due("back", x.back(), n);
      due("the one that came since goes", x.count(0), n);
      due("again", x.back(), n);
      x.reader(0, n);
    }
    due("five at last", x.count(0), 5);
  }

  private static void promise25() {
    says("How many: 0 READERS, 1 CUPS, 2 REASONS, 3 TEXTS, 4 bytes of THE TAPE, 5 THE RULE. BAD.");
    GroundsReadOut x = new GroundsReadOut();
    dues("bad", BAD, x.count(-1), x.count(6), x.count(MIN), x.count(MAX));
    for (int i = 1; i <= 5; i++) {
      x.reader(0, 0);
      due("readers", x.count(0), i);
    }
    for (int i = 1; i <= 6; i++) {
      x.cup(0, 0);
      due("cups", x.count(1), i);
    }
    for (int i = 1; i <= 12; i++) {
      x.reason(0, 0);
      due("reasons", x.count(2), i);
    }
    for (int i = 1; i <= 5; i++) {
      write(x, "turns 1;misses 1;bounds 1;");
      due("texts", x.count(3), i + 1);
      x.force(i);
      due("the rule", x.count(5), i);
    }
    for (int i = 1; i <= 160; i++) x.feed(9);
    due("bytes", x.count(4), 160);
    x.feed(9);
    due("bytes", x.count(4), 160);
  }

  private static void promise26() {
    says("A SHEET becomes a row of n of a sort, all 0, or missing (sort -1: n does not matter): 1. BAD: no such SHEET, sort; n above 40; -14.");
    GroundsReadOut x = new GroundsReadOut();
    for (int s = 0; s < 4; s++) {
      for (int sort = 0; sort < 3; sort++) {
        due("forty", x.sheet(s, sort, 40), 1);
        due("the last place", x.cell(s, 39, 5), 1);
        due("outside", x.cell(s, 40, 5), OUTSIDE);
        dues("above forty", BAD, x.sheet(s, sort, 41), x.sheet(s, sort, MAX));
        dues("below 0", BELOW, x.sheet(s, sort, -1), x.sheet(s, sort, MIN));
        due("it is still there", x.cell(s, 39, 5), 1);
        due("one", x.sheet(s, sort, 1), 1);
        due("the place", x.cell(s, 0, 5), 1);
        due("outside", x.cell(s, 1, 5), OUTSIDE);
        due("none", x.sheet(s, sort, 0), 1);
        due("outside", x.cell(s, 0, 5), OUTSIDE);
      }
      for (int n : new int[] {0, -1, 40, 41, MIN, MAX}) {
        x.sheet(s, 0, 1);
        due("missing, n " + n, x.sheet(s, -1, n), 1);
        due("it is", x.cell(s, 0, 0), NOTHING);
      }
    }
    dues("no such sheet", BAD, x.sheet(-1, 0, 1), x.sheet(4, 0, 1), x.sheet(-1, -1, 0), x.sheet(4, -1, 0), x.sheet(4, 0, -1), x.sheet(-1, 0, -1));
    dues("no such sort", BAD, x.sheet(0, -2, 1), x.sheet(0, 3, 1), x.sheet(0, -2, -1), x.sheet(0, 3, -1), x.sheet(0, MIN, 1), x.sheet(0, MAX, 1));
    // A row that becomes one anew is all 0, also where it was longer ahead.
    x = new GroundsReadOut();
    x.reader(ARAB, 0);
    for (int i = 0; i < 6; i++) x.cup(0, 0);
    for (int sort = 0; sort < 3; sort++) {
      x.sheet(0, sort, 6);
      for (int i = 0; i < 6; i++) x.cell(0, i, 7);
      x.sheet(0, sort, 2);
      due("all 0", x.tells(0, 0, 0), NONE);
      x.sheet(0, sort, 6);
      due("all 0", x.tells(0, 0, 0), NONE);
    }
  }

  /** Whether item i of a sheet of a sort is v, seen by an ARAB (one 0) in cup 0, which is drunk to 11. */
  private static void item(GroundsReadOut x, int sheet, int sort, int i, int v) {
    x.sheet(3, sort, 1);
    due("to look at it", x.copy(sheet, i, 3, 0, 1), 1);
    x.set(2, 0, v);
    due("item " + i + " of sheet " + sheet + " is " + v, x.tells(3, 0, 0), NONE);
  }
  private static GroundsReadOut looker() {
    GroundsReadOut x = new GroundsReadOut();
    x.reader(ARAB, 0);
    x.cup(0, 11);
    return x;
  }

  private static void promise27() {
    says("Item i of a SHEET becomes v (of bytes, shorts its lowest 8, 16 bits): 1. BAD: no such SHEET; -11; -12.");
    int[][] cells = {{0, 0, 0, 0}, {127, 127, 127, 127}, {2047, -1, 2047, 2047}, {256, 0, 256, 256}, {257 + 126, 127, 383, 383},
      {65536 + 5, 5, 5, -1}, {MIN, 0, 0, -1}, {MIN + 100, 100, 100, -1}, {-65536 + 1000, -1, 1000, -1}, {-256 + 77, 77, -1, -1},
      {0x7F00007F, 127, 127, -1}, {128, -1, 128, 128}};
    for (int[] c : cells) {
      for (int sort = 0; sort < 3; sort++) {
        GroundsReadOut x = looker();
        x.sheet(0, sort, 2);
        due("cell(0, 1, " + c[0] + ")", x.cell(0, 1, c[0]), 1);
        if (c[sort + 1] >= 0) item(x, 0, sort, 1, c[sort + 1]);
        item(x, 0, sort, 0, 0);
      }
    }
    GroundsReadOut x = looker();
    dues("no such sheet", BAD, x.cell(-1, 0, 0), x.cell(4, 0, 0), x.cell(MIN, -1, 0), x.cell(MAX, -1, 0));
    dues("missing, ahead of outside", NOTHING, x.cell(0, 0, 0), x.cell(0, -1, 0), x.cell(3, MAX, 0));
    for (int n : new int[] {0, 1, 40}) {
      x.sheet(0, 2, n);
      dues("outside", OUTSIDE, x.cell(0, -1, 9), x.cell(0, n, 9), x.cell(0, MIN, 9), x.cell(0, MAX, 9));
      for (int i = 0; i < n; i++) due("inside", x.cell(0, i, i), 1);
      for (int i = 0; i < n; i++) item(x, 0, 2, i, i);
    }
  }

  private static void promise28() {
    says("n numbers of a SHEET, from item i on, come to another one's item j on (as they were): n. BAD: no such SHEET; -11; -13: they are of unlike sorts; -12 (also with n below 0).");
    for (int sort = 0; sort < 3; sort++) {
      GroundsReadOut x = looker();
      x.sheet(0, sort, 40);
      x.sheet(1, sort, 40);
      for (int i = 0; i < 40; i++) x.cell(0, i, i + 1);
      due("all forty", x.copy(0, 0, 1, 0, 40), 40);
      for (int i = 0; i < 40; i += 13) item(x, 1, sort, i, i + 1);
      due("the last to the first", x.copy(0, 39, 1, 0, 1), 1);
      item(x, 1, sort, 0, 40);
      item(x, 1, sort, 1, 2);
      due("the first to the last", x.copy(0, 0, 1, 39, 1), 1);
      item(x, 1, sort, 39, 1);
      item(x, 1, sort, 38, 39);
      due("upwards in one sheet", x.copy(0, 0, 0, 1, 39), 39);
      for (int i = 1; i < 40; i += 9) item(x, 0, sort, i, i);
      item(x, 0, sort, 0, 1);
      due("downwards in one sheet", x.copy(0, 1, 0, 0, 39), 39);
      for (int i = 0; i < 39; i += 9) item(x, 0, sort, i, i + 1);
      item(x, 0, sort, 39, 39);
      dues("none, up to right behind the last", 0, x.copy(0, 40, 1, 0, 0), x.copy(0, 0, 1, 40, 0), x.copy(0, 40, 0, 40, 0));
      dues("outside", OUTSIDE, x.copy(0, 41, 1, 0, 0), x.copy(0, 0, 1, 41, 0), x.copy(0, 40, 1, 0, 1), x.copy(0, 0, 1, 40, 1),
          x.copy(0, 0, 1, 0, 41), x.copy(0, 1, 1, 0, 40), x.copy(0, 0, 1, 1, 40), x.copy(0, -1, 1, 0, 1), x.copy(0, 0, 1, -1, 1),
          x.copy(0, -1, 1, 0, 0), x.copy(0, 0, 1, -1, 0), x.copy(0, 0, 1, 0, -1), x.copy(0, 1, 1, 1, -1), x.copy(0, 40, 1, 40, MIN),
          x.copy(0, 2, 1, 2, MAX), x.copy(0, MAX, 1, 0, 1), x.copy(0, 0, 1, MAX, 1), x.copy(0, MAX, 1, MAX, MAX));
      item(x, 1, sort, 0, 40);
    }
    GroundsReadOut x = looker();
    x.sheet(0, 0, 2);
    x.sheet(1, 1, 2);
    x.sheet(2, 2, 2);
    for (int a = 0; a < 3; a++) {
      for (int b = 0; b < 3; b++) {
        due("of sorts " + a + ", " + b, x.copy(a, 0, b, 0, 1), a == b ? 1 : OTHER);
        due("none of sorts " + a + ", " + b, x.copy(a, 0, b, 0, 0), a == b ? 0 : OTHER);
        due("outside, of sorts " + a + ", " + b, x.copy(a, 9, b, 0, -1), a == b ? OUTSIDE : OTHER);
      }
      dues("missing, ahead of all but bad", NOTHING, x.copy(a, 0, 3, 0, 1), x.copy(3, 0, a, 0, 1), x.copy(a, -1, 3, 0, 1), x.copy(3, 0, a, 0, -1));
      dues("no such sheet", BAD, x.copy(a, 0, 4, 0, 1), x.copy(4, 0, a, 0, 1), x.copy(a, 0, -1, 0, 1), x.copy(-1, 0, a, 0, 1));
    }
    dues("bad ahead of missing", BAD, x.copy(3, 0, 4, 0, 0), x.copy(-1, 0, 3, 0, 0));
    due("missing, itself", x.copy(3, 0, 3, 0, 0), NOTHING);
  }

  private static GroundsReadOut sheetOf(int sort, int... items) {
    GroundsReadOut x = new GroundsReadOut();
    x.sheet(0, sort, items.length);
    for (int i = 0; i < items.length; i++) x.cell(0, i, items[i]);
    return x;
  }
  private static void promise29() {
    says("READERS by a SHEET that is taken for one of a sort: from one on, two by two (as of reader()), n of them (0 .. 5): how many came (others are left out). BAD: no such SHEET, sort, n; -13; -11; -12: what stood ahead came.");
    for (int sort = 0; sort < 3; sort++) {
      GroundsReadOut x = sheetOf(sort, 0, 9, 1, 8, 2, 7, 3, 6, 4, 5);
      due("five", x.house(0, sort, 0, 5), 5);
      for (int i = 0; i < 5; i++) due("kind", x.told(i, 6), i);
      for (int i = 0; i < 5; i++) due("number", x.told(i, 4), 9 - i);
      due("all are left out then", x.house(0, sort, 0, 5), 0);
      x = sheetOf(sort, 0, 9, 1, 8, 2, 7, 3, 6, 4, 5);
      x.reader(0, 0);
      due("four have room", x.house(0, sort, 0, 5), 4);
      x = sheetOf(sort, 0, 9, 1, 8, 2, 7, 3, 6, 4, 5);
      due("none of them", x.house(0, sort, 0, 0), 0);
      dues("none, wherever", 0, x.house(0, sort, -1, 0), x.house(0, sort, 10, 0), x.house(0, sort, 11, 0), x.house(0, sort, MIN, 0), x.house(0, sort, MAX, 0));
      due("nobody came", x.count(0), 0);
      due("the last two", x.house(0, sort, 8, 1), 1);
      due("kind 4", x.told(0, 6), 4);
      dues("outside, nobody ahead", OUTSIDE, x.house(0, sort, 9, 1), x.house(0, sort, 10, 1), x.house(0, sort, -1, 1), x.house(0, sort, -2, 5),
          x.house(0, sort, MAX, 1), x.house(0, sort, MAX, 5), x.house(0, sort, MAX - 1, 5), x.house(0, sort, MIN, 5));
      due("nobody more", x.count(0), 1);
      due("what stood ahead came", x.house(0, sort, 6, 3), OUTSIDE);
      due("two", x.count(0), 3);
      due("kind 3", x.told(1, 6), 3);
      due("half of one is none", x.house(0, sort, 7, 2), OUTSIDE);
      due("6, 4 is left out", x.count(0), 3);
      for (int other = 0; other < 3; other++) {
        if (other == sort) continue;
        dues("of another sort, ahead of outside", OTHER, x.house(0, other, 0, 1), x.house(0, other, 0, 0), x.house(0, other, -1, 5));
      }
      dues("bad, ahead of that", BAD, x.house(0, (sort + 1) % 3, 0, 6), x.house(0, (sort + 1) % 3, 0, -1));
      dues("missing", NOTHING, x.house(1, sort, 0, 1), x.house(1, sort, 0, 0), x.house(1, sort, -1, 5));
      dues("bad, ahead of that", BAD, x.house(1, sort, 0, 6), x.house(1, sort, 0, -1), x.house(1, -1, 0, 0), x.house(1, 3, 0, 0));
      dues("no such sheet", BAD, x.house(-1, sort, 0, 1), x.house(4, sort, 0, 1), x.house(MIN, sort, 0, 1), x.house(MAX, sort, 0, 1));
      dues("no such n", BAD, x.house(0, sort, 0, -1), x.house(0, sort, 0, 6), x.house(0, sort, 0, MIN), x.house(0, sort, 0, MAX));
    }
    GroundsReadOut x = sheetOf(2, -1, 0, 6, 0, 0, -1, 0, 10, 5, 9);
    due("four are left out", x.house(0, 2, 0, 5), 1);
    due("the last came", x.told(0, 6) * 10 + x.told(0, 4), 59);
    due("from an odd place on", sheetOf(2, 9, 0, 6, 9).house(0, 2, 1, 1), 1);
    due("a byte of 256 is 0", sheetOf(0, 256, 256 + 9).house(0, 0, 0, 1), 1);
    due("a byte of 255 is none", sheetOf(0, 255, 0).house(0, 0, 0, 1), 0);
    due("a short of 65536 is 0", sheetOf(1, 65536, 65536 + 9).house(0, 1, 0, 1), 1);
    due("an int of 65536 is none", sheetOf(2, 65536, 0).house(0, 2, 0, 1), 0);
    x = sheetOf(2, 1, 1);
    for (int i = 0; i < 5; i++) x.reader(0, 0);
    due("outside, though there is no room", x.house(0, 2, 0, 2), OUTSIDE);
  }

  private static void promise30() {
    says("One of READERS taken for one of KIND k (0 .. 5), or one under that one (also by others between): the NUMBER. BAD: k; -11: none such; -13.");
    GroundsReadOut x = new GroundsReadOut();
    dues("nobody", NOTHING, x.taken(0, 0), x.taken(0, 5), x.taken(-1, 0));
    for (int i = 0; i < 5; i++) x.reader(i, 9 - i);
    dues("no kind", BAD, x.taken(0, -1), x.taken(0, 6), x.taken(0, MIN), x.taken(0, MAX));
    dues("no kind, ahead of none such", BAD, x.taken(-1, -1), x.taken(5, 6));
    dues("none such, whatever kind", NOTHING, x.taken(-1, 0), x.taken(5, 0), x.taken(5, 5), x.taken(MIN, 3), x.taken(MAX, 3));
    int[][] taken = {{9, OTHER, OTHER, OTHER, OTHER, OTHER}, {8, 8, OTHER, OTHER, OTHER, OTHER}, {7, OTHER, 7, OTHER, OTHER, OTHER},
      {6, 6, OTHER, 6, OTHER, OTHER}, {5, OTHER, 5, OTHER, 5, OTHER}};
    for (int i = 0; i < 5; i++) for (int k = 0; k < 6; k++) due("taken(" + i + ", " + k + ")", x.taken(i, k), taken[i][k]);
    x = new GroundsReadOut();
    x.reader(ARAB, 0);
    for (int k = 0; k < 6; k++) due("an arab for " + k, x.taken(0, k), k == READER || k == ARAB ? 0 : OTHER);
    x.set(4, 0, 9);
    due("the number as it is", x.taken(0, 5), 9);
  }

  public static void main(String[] args) throws IOException {
    promise1();
    promise2();
    promise2alone();
    promise3();
    promise4();
    promise5();
    promise6();
    promise7();
    promise8();
    promise9();
    promise10();
    promise11();
    promise12();
    promise13();
    promise14();
    promise15();
    promise16();
    promise17();
    promise18();
    promise19();
    promise20();
    promise21and22();
    promise23and24();
    promise25();
    promise26();
    promise27();
    promise28();
    promise29();
    promise30();
    end(args);
  }
}
