import java.io.IOException;
import java.util.ArrayList;
import java.util.Arrays;
import java.util.List;
import java.util.Set;

/** The edges that the document's terms name: a test for each sentence, of both sides of each bound. */
public final class EdgesOfTermsTest extends Look {
  private static final int[] NO_SETS = {MIN, -4096, -2, -1, 4096, 4097, 8191, 65536, MAX};
  private static final int[] NO_SAYINGS = {MIN, -32, -12, -2, -1, 12, 13, 31, 32, 43, MAX};

  // ---- what there is, and how much of it

  private static void calls512() {
    says("An object is used for at most 512 calls after it has been made; what later calls answer is free.");
    GroundsReadOut x = new GroundsReadOut();
    for (int i = 0; i < 511; i++) due("set", x.set(1, 0, i + 1), i);
    due("the 512th call", x.told(0, 1), 511);
    x = new GroundsReadOut();
    x.set(0, 0, 4095);
    for (int k = 0; k < 12; k++) x.reason(k == 11 ? 0 : 1 << k, (k + 1) % 12);
    for (int i = 13; i < 512; i++) due("best(4) as call " + i, x.best(4), 0);
  }

  private static void sayings() {
    says("11; sets of them are told as bits (0 .. 4095).");
    GroundsReadOut x = new GroundsReadOut();
    x.cup(0, 0);
    for (int v : NO_SETS) {
      dues("no set " + v, BAD, x.set(0, 0, v), x.set(2, 0, v), x.cup(v, 0), x.reason(v, 11), x.follows(v, 0));
    }
    for (int v : new int[] {0, 1, 2047, 2048, 4094, 4095}) {
      x.set(0, 0, v);
      x.set(2, 0, v);
      dues("a set", v, x.told(0, 0), x.told(0, 2), x.follows(v, 0));
    }
    for (int v : NO_SAYINGS) dues("no saying " + v, BAD, x.set(3, 0, v), x.cup(0, v), x.reason(0, v), x.why(v, 0));
    for (int v = 0; v < 12; v++) {
      x.set(3, 0, v);
      due("a saying", x.told(0, 3), v);
      due("a reason for it", x.reason(4095 & ~(1 << v), v), v);
    }
    for (int v = 0; v < 12; v++) due("why", x.why(v, 0), 4095 & ~(1 << v));
    x = new GroundsReadOut();
    dues("the least and the last cup", 0, x.cup(0, 0), x.cup(4095, 11) - 1);
  }

  private static void opposites() {
    says("SAYING k and k + 6 are OPPOSITE (k 0 .. 5).");
    GroundsReadOut x = null;
    for (int set = 0; set < 4096; set++) {
      if (set % 512 == 0) x = new GroundsReadOut();
      int clash = 0;
      for (int k = 0; k < 6; k++) if ((set >> k & 1) == 1 && (set >> k + 6 & 1) == 1) clash = 1;
      due("follows(" + set + ", 2)", x.follows(set, 2), clash);
    }
  }

  private static void atFirst() {
    GroundsReadOut x = new GroundsReadOut();
    says("SAID: a set (none at first).");
    due("said at first", x.told(0, 0), 0);
    says("HOUR (0 .. 999; 0 at first).");
    due("hour at first", x.told(0, 1), 0);
    dues("no hour", BAD, x.set(1, 0, -1), x.set(1, 0, 1000), x.set(1, 0, MIN), x.set(1, 0, MAX));
    due("none of them came", x.told(0, 1), 0);
    due("998", x.set(1, 0, 998), 0);
    due("999", x.set(1, 0, 999), 998);
    due("0 again", x.set(1, 0, 0), 999);
    due("it is 0", x.told(0, 1), 0);
  }

  private static void atMost() {
    says("CUPS (6 at most, numbered from 0): GROUNDS (a set), drunk TO a SAYING.");
    GroundsReadOut x = new GroundsReadOut();
    due("no cup 0 yet", x.told(0, 2), BAD);
    for (int i = 0; i < 6; i++) {
      due("cup", x.cup(100 + i, i), i);
      due("how many", x.count(1), i + 1);
      due("the next isn't there", x.told(i + 1, 2), BAD);
    }
    due("a seventh", x.cup(100, 0), FULL);
    due("still six", x.count(1), 6);
    for (int i = 0; i < 6; i++) due("its own grounds", x.told(i, 2), 100 + i);
    for (int i = 0; i < 6; i++) due("its own saying", x.told(i, 3), i);
    says("REASONS (12 at most, numbered from 0): a set that BEARS a SAYING.");
    x = new GroundsReadOut();
    for (int i = 0; i < 12; i++) {
      due("reason", x.reason(i == 0 ? 0 : 1 << i - 1, i), i);
      due("how many", x.count(2), i + 1);
      due("the next isn't there", x.told(i + 1, 8), BAD);
    }
    due("a thirteenth", x.reason(0, 0), FULL);
    due("still twelve", x.count(2), 12);
    for (int i = 0; i < 12; i++) due("its own set", x.told(i, 8), i == 0 ? 0 : 1 << i - 1);
    for (int i = 0; i < 12; i++) due("its own saying", x.told(i, 9), i);
    due("all twelve bear", x.follows(0, 0), 4095);
    says("READERS (5 at most, numbered from 0) have a KIND:");
    x = new GroundsReadOut();
    for (int i = 0; i < 5; i++) {
      due("reader", x.reader(i + 1, i), i);
      due("how many", x.count(0), i + 1);
      due("the next isn't there", x.told(i + 1, 6), BAD);
    }
    due("a sixth", x.reader(0, 0), FULL);
    due("still five", x.count(0), 5);
    for (int i = 0; i < 5; i++) due("its own kind", x.told(i, 6), i + 1);
    for (int i = 0; i < 5; i++) due("its own number", x.told(i, 4), i);
  }

  private static void kinds() {
    says("0 READER, 1 CLERK under READER, 2 DREAMER under READER, 3 WIDOW under CLERK, 4 PROPHET under DREAMER, 5 ARAB under READER;");
    boolean[][] under = {
      {true, false, false, false, false, false},
      {true, true, false, false, false, false},
      {true, false, true, false, false, false},
      {true, true, false, true, false, false},
      {true, false, true, false, true, false},
      {true, false, false, false, false, true}};
    for (int kind = 0; kind < 6; kind++) {
      GroundsReadOut x = new GroundsReadOut();
      due("reader(" + kind + ", 8)", x.reader(kind, 8), 0);
      for (int k = 0; k < 6; k++) due(kind + " taken for " + k, x.taken(0, k), under[kind][k] ? 8 : OTHER);
    }
    dues("no kinds", BAD, new GroundsReadOut().reader(-1, 0), new GroundsReadOut().reader(6, 0));
  }

  private static void numbersAndSlips() {
    says("a NUMBER (0 .. 9), SLIPS (0 .. 99; 0 as one comes).");
    GroundsReadOut x = new GroundsReadOut();
    dues("no number", BAD, x.reader(0, -1), x.reader(0, 10), x.reader(0, MIN), x.reader(0, MAX));
    due("nobody came", x.count(0), 0);
    due("number 0", x.reader(0, 0), 0);
    due("number 9", x.reader(0, 9), 1);
    due("0", x.told(0, 4), 0);
    due("9", x.told(1, 4), 9);
    dues("no number", BAD, x.set(4, 0, -1), x.set(4, 0, 10));
    due("to 9", x.set(4, 0, 9), 0);
    due("to 0", x.set(4, 0, 0), 9);
    due("slips as one comes", x.told(0, 5), 0);
    dues("no slips", BAD, x.set(5, 0, -1), x.set(5, 0, 100), x.set(5, 0, MIN), x.set(5, 0, MAX));
    due("to 99", x.set(5, 0, 99), 0);
    due("to 0", x.set(5, 0, 0), 99);
    x.image();
    x.reader(0, 5);
    x.set(5, 2, 77);
    x.back();
    due("one comes where another went", x.reader(0, 5), 2);
    due("with no slips", x.told(2, 5), 0);
    x.set(5, 2, 66);
    x.back();
    x.sheet(0, 0, 2);
    due("one comes by a sheet", x.house(0, 0, 0, 1), 1);
    due("with no slips", x.told(2, 5), 0);
  }

  private static void constants() {
    says("NONE is -1; NO, where a long is answered, -4611686018427387904.");
    due("NONE", GroundsReadOut.NONE, -1);
    due("NO", GroundsReadOut.NO, -4611686018427387904L);
    GroundsReadOut x = new GroundsReadOut();
    due("NONE is answered", x.best(4), -1);
    dues("NO is answered", -4611686018427387904L, x.share(2), x.chance(0, 0, 0, 0));
  }

  // ---- what one sees, overlooks, reads; who is steady

  private static int turned(int set, int v) {
    int t = 0;
    for (int k = 0; k < 12; k++) if ((set >> k & 1) == 1) t |= 1 << ((k + v) % 12 + 12) % 12;
    return t;
  }
  private static int mirrored(int set) {
    int m = 0;
    for (int k = 0; k < 12; k++) if ((set >> k & 1) == 1) m |= 1 << 11 - k;
    return m;
  }

  private static void seesByTurns() {
    for (int v = -99; v <= 99; v++) {
      GroundsReadOut x = ruled(v < 0 ? "-" + -v : "" + v, v < 0 ? "-" + -v : "" + v, "9");
      int[] sets = {0, 1, 2048, 2049, 1365, 4095};
      for (int set : sets) x.cup(set, 5);
      for (int kind = 0; kind < 5; kind++) x.reader(kind, 3);
      for (int c = 0; c < 6; c++) {
        int set = sets[c];
        String at = " of " + set + " turned by " + v;
        says("READER: GROUNDS turned by v (SAYING k becomes k + v, modulo 12, made 0 or more);");
        due("a reader's" + at, x.sees(0, c, 0), turned(set, v));
        says("CLERK: as a READER, then SAYING k becomes 11 - k;");
        due("a clerk's" + at, x.sees(1, c, 0), mirrored(turned(set, v)));
        says("DREAMER: as a READER, and SAYING NUMBER, too, if it isn't of it, else without it;");
        due("a dreamer's" + at, x.sees(2, c, 0), turned(set, v) ^ 8);
        says("WIDOW: as a CLERK, but of GROUNDS without the least of them;");
        due("a widow's" + at, x.sees(3, c, 0), mirrored(turned(set - Integer.lowestOneBit(set), v)));
        says("PROPHET: as a DREAMER of all that is not of GROUNDS;");
        due("a prophet's" + at, x.sees(4, c, 0), turned(4095 - set, v) ^ 8);
      }
      int missed = ((v % 12) + 12) % 12;
      says("READER: SAYING v modulo 12 (made 0 or more);");
      due("a reader misses " + v, x.sees(0, 0, 1), 1 << missed);
      says("DREAMER: that, and all above it;");
      int above = 0;
      for (int k = missed; k < 12; k++) above |= 1 << k;
      due("a dreamer misses " + v, x.sees(2, 0, 1), above);
      says("PROPHET: as a DREAMER, if HOUR is odd, else nothing;");
      due("a prophet misses at 0", x.sees(4, 0, 1), 0);
      x.set(1, 0, 1);
      due("a prophet misses at 1", x.sees(4, 0, 1), above);
    }
  }

  private static void seesByHand() {
    GroundsReadOut x = new GroundsReadOut();
    x.cup(0, 0);
    x.cup(4095, 11);
    x.cup(bits(11), 10);
    x.cup(bits(0), 1);
    for (int kind = 0; kind < 5; kind++) x.reader(kind, 9);
    says("WIDOW: as a CLERK, but of GROUNDS without the least of them;");
    due("of nothing nothing", x.sees(3, 0, 0), 0);
    due("of all without 0", x.sees(3, 1, 0), 2047);
    due("of 11 nothing", x.sees(3, 2, 0), 0);
    due("of 0 nothing", x.sees(3, 3, 0), 0);
    says("PROPHET: as a DREAMER of all that is not of GROUNDS;");
    due("of nothing all but 9", x.sees(4, 0, 0), 4095 - 512);
    due("of all 9", x.sees(4, 1, 0), 512);
    says("DREAMER: as a READER, and SAYING NUMBER, too, if it isn't of it, else without it;");
    for (int n = 0; n < 10; n++) {
      x.set(4, 2, n);
      due("of nothing " + n, x.sees(2, 0, 0), 1 << n);
      due("of all all but " + n, x.sees(2, 1, 0), 4095 - (1 << n));
    }
    says("CLERK: as a READER, then SAYING k becomes 11 - k;");
    due("of 11 0", x.sees(1, 2, 0), bits(0));
    due("of 0 11", x.sees(1, 3, 0), bits(11));
    says("ARAB: GROUNDS.");
    x = ruled("7", "3", "0");
    x.reader(ARAB, 3);
    for (int set : new int[] {0, 1, 2048, 1365, 4095}) {
      x.cup(set, 4);
      due("an arab sees " + set, x.sees(0, x.count(1) - 1, 0), set);
    }
  }

  private static void overlooks() {
    GroundsReadOut x = ruled("0", "hour - 30", "9");
    x.cup(4095, 5);
    for (int kind = 1; kind < 6; kind++) x.reader(kind, 0);
    for (int hour : new int[] {0, 1, 29, 30, 31, 998, 999}) {
      x.set(1, 0, hour);
      says("CLERK: nothing;");
      due("a clerk at " + hour, x.sees(0, 0, 1), 0);
      says("ARAB: nothing.");
      due("an arab at " + hour, x.sees(4, 0, 1), 0);
    }
    says("WIDOW: SAYING NUMBER;");
    for (int n = 0; n < 10; n++) {
      x.set(4, 2, n);
      due("a widow of number " + n, x.sees(2, 0, 1), 1 << n);
    }
    says("DREAMER: that, and all above it;");
    x.set(1, 0, 30);
    due("from 0 on", x.sees(1, 0, 1), 4095);
    x.set(1, 0, 29);
    due("from 11 on", x.sees(1, 0, 1), 2048);
    x.set(1, 0, 41);
    due("from 11 on", x.sees(1, 0, 1), 2048);
    x.set(1, 0, 42);
    due("from 0 on", x.sees(1, 0, 1), 4095);
    says("PROPHET: as a DREAMER, if HOUR is odd, else nothing;");
    x = ruled("0", "7", "9");
    x.cup(0, 5);
    x.reader(PROPHET, 9);
    for (int hour : new int[] {0, 2, 500, 998}) {
      x.set(1, 0, hour);
      due("at " + hour, x.sees(0, 0, 1), 0);
    }
    for (int hour : new int[] {1, 3, 501, 997, 999}) {
      x.set(1, 0, hour);
      due("at " + hour, x.sees(0, 0, 1), 4095 - 127);
    }
  }

  private static void reads() {
    says("READS (a CUP): what one SEES, without what one OVERLOOKS, and without the SAYING the CUP is drunk TO.");
    GroundsReadOut x = ruled("0", "3", "9");
    x.cup(4095, 0);
    x.cup(4095, 11);
    x.cup(4095, 3);
    x.cup(0, 3);
    x.cup(bits(3), 4);
    x.cup(bits(4), 4);
    x.reader(READER, 0);
    x.reader(ARAB, 0);
    due("without 3 and 0", x.sees(0, 0, 2), 4095 - bits(3, 0));
    due("without 3 and 11", x.sees(0, 1, 2), 4095 - bits(3, 11));
    due("without 3 alone", x.sees(0, 2, 2), 4095 - bits(3));
    due("of nothing nothing", x.sees(0, 3, 2), 0);
    due("only what is overlooked", x.sees(0, 4, 2), 0);
    due("only what it is drunk to", x.sees(0, 5, 2), 0);
    due("an arab without 0", x.sees(1, 0, 2), 4094);
    due("an arab without 11", x.sees(1, 1, 2), 2047);
    due("an arab's 3", x.sees(1, 4, 2), 8);
    due("an arab without 4", x.sees(1, 5, 2), 0);
    x = ruled("1", "11", "9");
    x.cup(bits(10, 2), 3);
    x.reader(READER, 0);
    x.reader(CLERK, 0);
    due("seen", x.sees(0, 0, 0), bits(11, 3));
    due("what it is drunk to is not turned", x.sees(0, 0, 2), 0);
    due("a clerk reads", x.sees(1, 0, 2), bits(0, 8));
  }

  private static void steadyAt(int kind, String bounds, int slips, int want) {
    GroundsReadOut x = ruled("0", "0", bounds);
    x.reader(kind, 0);
    x.set(5, 0, slips);
    due("kind " + kind + ", bounds " + bounds + ", slips " + slips, x.told(0, 7), want);
  }
  private static void steady() {
    String[] bounds = {"0", "1", "2", "9", "49", "50", "98", "99"};
    for (String b : bounds) {
      int v = Integer.parseInt(b);
      for (int kind : new int[] {READER, DREAMER}) {
        says(kind == READER ? "READER: if SLIPS is below v;" : "DREAMER: as a READER; WIDOW: as a CLERK;");
        if (v > 0) steadyAt(kind, b, v - 1, 1);
        steadyAt(kind, b, v, 0);
        steadyAt(kind, b, 99, 0);
      }
      for (int kind : new int[] {CLERK, WIDOW, ARAB}) {
        says(kind == CLERK ? "CLERK: always;" : kind == WIDOW ? "DREAMER: as a READER; WIDOW: as a CLERK;" : "ARAB: always.");
        steadyAt(kind, b, 0, 1);
        steadyAt(kind, b, 99, 1);
      }
      says("PROPHET: if SLIPS is below twice v;");
      if (v > 0) steadyAt(PROPHET, b, Math.min(99, 2 * v - 1), 1);
      if (2 * v < 100) steadyAt(PROPHET, b, 2 * v, 0);
    }
  }

  // ---- texts

  private static void tape() {
    says("A TEXT is read from THE TAPE (160 bytes at most).");
    String end = "1;misses 2;bounds 9;";
    StringBuilder blanks = new StringBuilder();
    while (blanks.length() < 160 - 6 - end.length()) blanks.append(' ');
    String whole = "turns " + blanks + end;
    GroundsReadOut x = new GroundsReadOut();
    due("159 bytes", feedAll(x, whole.substring(0, 159)), 159);
    due("end too early", x.text(), -100 - 159);
    due("160 bytes", feedAll(x, whole), 160);
    due("a 161st", x.feed('x'), FULL);
    due("are a text", x.text(), 1);
    x = new GroundsReadOut();
    due("159 bytes", feedAll(x, whole.replaceFirst(" ", "")), 159);
    due("are one, too", x.text(), 1);
    x = new GroundsReadOut();
    feedAll(x, whole.substring(0, 159) + "?");
    due("the last byte is looked at", x.text(), -100 - 159);
    x = new GroundsReadOut();
    for (int i = 0; i < 160; i++) x.feed('(');
    due("160 tokens", x.text(), -100);
    for (int i = 0; i < 160; i++) x.feed('a');
    due("a word of 160", x.text(), -100);
    due("an empty tape", x.text(), -100);
    StringBuilder sum = new StringBuilder("turns 1");
    while (sum.length() + 2 + 20 <= 160) sum.append("+1");
    String longest = sum + ";misses 2; bounds 9;";
    x = new GroundsReadOut();
    due("160 bytes of tokens", feedAll(x, longest), longest.length());
    due("are a text", x.text(), 1);
    x.force(1);
    x.cup(1, 5);
    x.reader(READER, 0);
    due("a sum of " + (sum.length() - 5) / 2, x.sees(0, 0, 0), 1 << (sum.length() - 5) / 2 % 12);
  }

  private static void everyByte() {
    says("TOKENS, each as long as can be: WORDS (a .. z), NUMBERS (digits, 4 at most), SIGNS ( ) ; + - * < = ; blanks (32, 10) may stand between.");
    String whole = "turns 1;misses 1;bounds 1;";
    for (int b = 0; b < 256; b++) {
      String s = String.valueOf((char) b);
      boolean blank = b == 32 || b == 10, letter = b >= 'a' && b <= 'z', digit = b >= '0' && b <= '9';
      due("byte " + b + " ahead", answer(s + whole), blank ? 1 : -100);
      due("byte " + b + " behind", answer(whole + s), blank ? 1 : -100 - 26);
      int between = blank || digit ? 1 : ";+-*<=".indexOf(b) >= 0 ? -100 - 8 : -100 - 7;
      due("byte " + b + " behind a number", answer("turns 1" + s + ";misses 1;bounds 1;"), between);
      due("byte " + b + " in a word", answer("tur" + s + "ns 1;misses 1;bounds 1;"), -100);
      due("byte " + b + " in a name", answer("turns cu" + s + "p;misses 1;bounds 1;"), -100 - 6);
      due("byte " + b + " behind a word", answer("turns cup" + s + ";misses 1;bounds 1;"), letter ? -100 - 6
          : blank ? 1 : ";+-*<=".indexOf(b) >= 0 ? -100 - 10 : -100 - 9);
      due("byte " + b + " as one", answer("turns 1 +" + s + ";misses 1;bounds 1;"),
          digit ? 1 : blank || b == '-' || b == '(' ? -100 - 10 : -100 - 9);
    }
  }

  private static void tokensAsLongAsCanBe() {
    says("TOKENS, each as long as can be: WORDS (a .. z), NUMBERS (digits, 4 at most), SIGNS ( ) ; + - * < = ; blanks (32, 10) may stand between.");
    fault("turnsmisses 1;", 0);
    fault("turnscup;", 0);
    fault("turns cupcup;", 6);
    fault("turns notcup;", 6);
    fault("turns notnot 1;", 6);
    fault("turns 1 oror 1;", 8);
    fault("turns 1 andnot 1;", 8);
    fault("turns 1 orcup;", 8);
    fault("turns cupor 1;", 6);
    fault("turns 12345;misses 1;bounds 1;", 6);
    fault("turns 00001;misses 1;bounds 1;", 6);
    fault("turns 1+123456789;", 8);
    fault("turns 1 2;", 8);
    fault("turns 1\n2;", 8);
    fault("tur ns 1;", 0);
    fault("turns cu p;", 6);
    fine("turns1;misses1;bounds1;");
    fine("turns1or 2;misses not3;bounds(4)and(5);");
    fine("turns 9999;misses 0000;bounds 0999;");
    fine("turns-1;misses(1);bounds-(1);");
    fine("\n\n  turns\n\n1 ;\nmisses  1\n;bounds\n1;\n \n");
    fine("turns 1<2;misses 1=2;bounds 1*2;");
    fine("turns 1 < 2;misses 1 = 2;bounds 1 * 2;");
    turns("0009", 9);
    turns("0010", 10);
    turns("9999 = 9998 + 1", 1);
    turns("1000 = 999 + 1", 1);
    turns("1234 = 1000 + 200 + 30 + 4", 1);
    turns("0567 = 500 + 60 + 7", 1);
    turns("890 = 800 + 90", 1);
  }

  private static final String[] TOKENS = {
    "turns", "misses", "bounds", "or", "and", "not", "cup", "12", "(", ")", ";", "+", "-", "*", "<", "="};

  /** Of all tokens behind a text's beginning only these can stand there. */
  private static void onlyThese(String begin, String... these) {
    Set<String> can = Set.of(these);
    for (String token : TOKENS) {
      String text = begin + " " + token;
      fault(text, can.contains(token) ? text.length() : begin.length() + 1);
    }
  }
  private static void grammar() {
    says("TEXT: turns E ; misses E ; bounds E ; E: AND { or AND }.");
    onlyThese("", "turns");
    onlyThese("turns 1;", "misses");
    onlyThese("turns 1;misses 1;", "bounds");
    onlyThese("turns 1;misses 1;bounds 1;");
    fine("turns 1;misses 1;bounds 1;");
    says("E: AND { or AND }. AND: NOT { and NOT }. NOT: not NOT, or SUM, perhaps < or = and a SUM.");
    for (String begin : new String[] {"turns", "turns 1;misses", "turns 1;misses 1;bounds", "turns (", "turns 1 or", "turns 1 and",
        "turns not", "turns not not", "turns 1<1 or", "turns 1=1 and", "turns (1 or", "turns not 1 and", "turns 1 or 1 or",
        "turns 1 and 1 and", "turns 1 and 1 or", "turns -(", "turns 1<("}) {
      onlyThese(begin, "not", "cup", "12", "(", "-");
    }
    for (String begin : new String[] {"turns 1<1", "turns 1=1", "turns not 1<1", "turns 1<1+1", "turns 1+1=1*1", "turns 1<(1<1)",
        "turns 1 or 1=1", "turns 1 and cup<cup", "turns 1<-1"}) {
      onlyThese(begin, "or", "and", "+", "-", "*", ";");
    }
    onlyThese("turns (1<1", "or", "and", "+", "-", "*", ")");
    onlyThese("turns not (1=1", "or", "and", "+", "-", "*", ")");
    says("SUM: TERM { + or - TERM }. TERM: ONE { * ONE }. ONE: a NUMBER, a NAME, - ONE, ( E ).");
    for (String begin : new String[] {"turns 1+", "turns 1-", "turns 1*", "turns 1<", "turns 1=", "turns -", "turns --", "turns 1--",
        "turns not -", "turns (1+", "turns 1+1+", "turns 1*1*"}) {
      onlyThese(begin, "cup", "12", "(", "-");
    }
    for (String begin : new String[] {"turns 1", "turns cup", "turns 1+1", "turns 1-1", "turns 1*1", "turns -1", "turns --1", "turns not 1",
        "turns (1)", "turns (1<1)", "turns ((1))", "turns 1<1 or 1", "turns 1=1 and 1", "turns not (1)", "turns (not 1)", "turns -(1)",
        "turns 1;misses 1"}) {
      onlyThese(begin, "or", "and", "+", "-", "*", "<", "=", ";");
    }
    for (String begin : new String[] {"turns (1", "turns 1<(1", "turns ((1)", "turns (1 or 1", "turns (not 1", "turns -(1", "turns (1=1 and 1"}) {
      onlyThese(begin, "or", "and", "+", "-", "*", "<", "=", ")");
    }
  }

  private static void bindings() {
    says("SUM: TERM { + or - TERM }. TERM: ONE { * ONE }. ONE: a NUMBER, a NAME, - ONE, ( E ).");
    turns("9-4-3", 2);
    turns("9-4+3", 8);
    turns("1+2*4", 9);
    turns("2*4+1", 9);
    turns("11-2*3", 5);
    turns("-2*3", -6);
    turns("-2+5", 3);
    turns("5--3", 8);
    turns("-(2+3)", -5);
    turns("2*2*2", 8);
    turns("7", 7);
    says("E: AND { or AND }. AND: NOT { and NOT }. NOT: not NOT, or SUM, perhaps < or = and a SUM.");
    turns("1 or 1 and 0", 1);
    turns("0 and 1 or 1", 1);
    turns("not 0 and 0", 0);
    turns("not 1 or 1", 1);
    turns("not 2 < 1", 1);
    turns("not 1 < 2", 0);
    turns("not not 5", 1);
    turns("1 + 1 < 3", 1);
    turns("3 < 1 + 1", 0);
    turns("1 + 1 = 2 and 5", 1);
    turns("0 or 0 or 3", 1);
    turns("1 and 2 and 0", 0);
    turns("2 and 3 and 4", 1);
  }

  private static void names() {
    says("NAMES are grounds saying number hour slips cup; turns, misses, bounds, or, and, not are KEYS.");
    for (String word : new String[] {"grounds", "saying", "number", "hour", "slips", "cup", "turns", "misses", "bounds", "or", "and", "not"}) {
      boolean name = List.of("grounds", "saying", "number", "hour", "slips", "cup").contains(word);
      String behind = ";misses 1;bounds 1;";
      due(word + " as one", answer("turns " + word + behind), name ? 1 : word.equals("not") ? -100 - 9 : -100 - 6);
      fault("turns " + word.substring(1) + behind, 6);
      fault("turns " + word.substring(0, word.length() - 1) + behind, 6);
      fault("turns " + word + "s" + behind, 6);
      fault("turns x" + word + behind, 6);
      fault("turns x" + word.substring(1) + behind, 6);
      fault("turns " + (word.equals("cup") ? "cux" : word.substring(0, word.length() - 1) + "x") + behind, 6);
      fault("turns " + word.toUpperCase() + behind, 6);
      fault(word.equals("turns") ? "turnz 1" : word + " 1", 0);
    }
  }

  private static void ints() {
    says("An E is an int (32 bits, wrapping): of or, and, not, <, = 1 or 0 (what is not 0 is true).");
    turns("(" + MOST + ")*(" + MOST + ")", 1);
    turns("0<" + MOST, 1);
    turns("0<1+" + MOST, 0);
    turns("1+" + MOST + "=" + LEAST, 1);
    turns(LEAST + "-1=" + MOST, 1);
    turns(LEAST + "<0", 1);
    turns("-(" + LEAST + ")=" + LEAST, 1);
    turns("-1*(" + LEAST + ")=" + LEAST, 1);
    turns(LEAST + "<" + MOST, 1);
    turns(MOST + "<" + LEAST, 0);
    turns("(" + LEAST + ")*2", 0);
    turns("(" + MOST + ")*2", -2);
    turns("not (" + LEAST + ")", 0);
    turns("not 4096*16*4096*16", 1);
    turns("4096*16*4096*16 or 0", 0);
    turns("4096*16*4096*8 or 0", 1);
    turns(LEAST + " and " + MOST, 1);
    for (int a : new int[] {0, 1, 2, 7}) {
      for (int b : new int[] {0, 1, 2, 7}) {
        turns(a + " or " + b, a != 0 || b != 0 ? 1 : 0);
        turns(a + " and " + b, a != 0 && b != 0 ? 1 : 0);
        turns(a + "<" + b, a < b ? 1 : 0);
        turns(a + "=" + b, a == b ? 1 : 0);
        turns("-" + a + " or -" + b, a != 0 || b != 0 ? 1 : 0);
        turns("-" + a + " and -" + b, a != 0 && b != 0 ? 1 : 0);
        turns("-" + a + "<-" + b, b < a ? 1 : 0);
      }
      turns("not " + a, a == 0 ? 1 : 0);
      turns("not -" + a, a == 0 ? 1 : 0);
    }
  }

  private static void faults() {
    says("FAULT: the place of the first byte of the first TOKEN that can't stand there (the text's size, if it ends too early), also of a byte that begins none, a WORD that is neither KEY nor NAME, a NUMBER that is too long,");
    String rule = "turns 0 ; misses saying ; bounds 9 ;";
    for (int n = 0; n < rule.length(); n++) {
      boolean cut = n > 0 && Character.isLetter(rule.charAt(n - 1)) && Character.isLetter(rule.charAt(n));
      fault(rule.substring(0, n), cut ? rule.substring(0, n).lastIndexOf(' ') + 1 : n);
      if (!cut) fault(rule.substring(0, n) + "\n ", n + 2);
    }
    fine(rule);
    fault(rule + ";", 36);
    fault(rule + "\n\n;", 38);
    fault(rule + "?", 36);
    fault(rule + "word", 36);
    fault(rule + "12345", 36);
    fault(rule + " 1", 37);
    // Of two faults the first counts, of whichever sort they are.
    fault("turns ?12345 word", 6);
    fault("turns 12345? word", 6);
    fault("turns word? 12345", 6);
    fault("turns 1 1 ? word 12345", 8);
    fault("turns 1 ? ; ; ;", 8);
    fault("turns 1;bounds word;", 8);
    fault("turns word;bounds 1;", 6);
    fault("turns 1 + word + 12345", 10);
    fault("turns 1 + 12345 + word", 10);
    // The last place there can be.
    StringBuilder s = new StringBuilder("turns 1;misses 1;bounds 1");
    while (s.length() < 159) s.append(' ');
    fault(s + "2", 159);
    fault(s + " ", 160);
    fine(s + ";");
    fault(s.substring(1) + ";", 0);
  }

  private static void openOnes() {
    says("a ( , a not, a - ahead of a ONE while 5 of these are open (a ( till its ) , not and - till what they belong to ends).");
    everyOpening(new ArrayList<>());
    // What has ended is open no more.
    fine("turns (1)+(1)+(1)+(1)+(1)+(1)+(1);misses 1;bounds 1;");
    fine("turns ((((1))))+((((1))))*((((1))));misses 1;bounds 1;");
    fine("turns (((((1)))))+(((((1)))))*(((((1)))));misses 1;bounds 1;");
    fine("turns -1-1*-1+-1*-1*-1*-1*-1;misses 1;bounds 1;");
    fine("turns not 1 and not 1 and not 1 and not 1 and not 1 and not 1 or not 1;misses 1;bounds 1;");
    fine("turns (((((1)))));misses (((((1)))));bounds (((((1)))));");
    fine("turns -----1;misses -----1;bounds not not not not not 1;");
    fine("turns -----1--1;misses 1;bounds 1;");
    fine("turns ((((-1--1*-1))));misses 1;bounds 1;");
    fine("turns ((((-1<-1))));misses 1;bounds 1;");
    fine("turns ((((not 1 and not 1 or not 1))));misses 1;bounds 1;");
    fine("turns ((((not 1 or -1))));misses 1;bounds 1;");
    fine("turns ((((not 1 and -1))));misses 1;bounds 1;");
    fine("turns (((not (1))+(1)*-(1)));misses 1;bounds 1;");
    fine("turns ((((not 1)+(1)*-1)));misses 1;bounds 1;");
    fine("turns not not not not -1;misses 1;bounds 1;");
    fine("turns not not not not 1 < -1 - -1;misses 1;bounds 1;");
    // A not is open to the end of the sums that it belongs to, a - to the end of its one.
    fault("turns ((((not -1))));", 14);
    fault("turns ((((not 1<-1))));", 16);
    fault("turns ((((not 1+-1))));", 16);
    fault("turns ((((not 1*(1)))));", 16);
    fault("turns ((((not not 1))));", 14);
    fault("turns ((((-(1)))));", 11);
    fault("turns ((((--1))));", 11);
    fault("turns not not not not not -1;", 26);
    fault("turns not not not not not 1<-1;", 28);
    fault("turns not not not not not 1=(1);", 28);
    // A - between two is none of these.
    fine("turns (((((1-1-1-1)))));misses 1;bounds 1;");
    fine("turns -----1-1;misses 1;bounds 1;");
    fault("turns (((((1--1)))));", 13);
    fault("turns (((((1+(1))))));", 13);
    fault("turns (((((1 or not 1)))));", 16);
    fault("turns 1;misses ((((((1", 20);
    fault("turns 1;misses 1;bounds ------1", 29);
  }
  /** Each way to open five, with what it tells; a sixth of each sort can't stand there. */
  private static void everyOpening(List<String> open) {
    StringBuilder begin = new StringBuilder(), end = new StringBuilder();
    for (String o : open) {
      begin.append(o).append(' ');
      if (o.equals("(")) end.append(')');
    }
    int worth = 7;
    for (int i = open.size() - 1; i >= 0; i--) worth = open.get(i).equals("-") ? -worth : open.get(i).equals("(") ? worth : worth == 0 ? 1 : 0;
    turns(begin + "7" + end, worth);
    boolean minus = !open.isEmpty() && open.get(open.size() - 1).equals("-");
    for (String o : new String[] {"(", "-", "not"}) {
      if (o.equals("not") && minus) continue;
      if (open.size() == 5) {
        fault("turns " + begin + o + " 7" + (o.equals("(") ? ")" : "") + end + ";misses 1;bounds 1;", 6 + begin.length());
        continue;
      }
      open.add(o);
      everyOpening(open);
      open.remove(open.size() - 1);
    }
  }

  private static void texts() {
    says("There are 6 TEXTS at most, TEXT 0 with them.");
    GroundsReadOut x = new GroundsReadOut();
    due("text 0 is there", x.count(3), 1);
    for (int i = 1; i < 6; i++) due("text", write(x, "turns " + (i + 1) + ";misses 0;bounds 0;"), i);
    due("six", x.count(3), 6);
    due("a seventh", write(x, "turns 9;misses 0;bounds 0;"), FULL);
    due("still six", x.count(3), 6);
    x.cup(1, 5);
    x.reader(READER, 0);
    for (int i = 1; i < 6; i++) {
      due("force", x.force(i), i - 1);
      due("each its own", x.sees(0, 0, 0), 1 << i + 1);
    }
    due("no text 6", x.force(6), BAD);
    due("text 0", x.force(0), 5);
    due("text 0's turns", x.sees(0, 0, 0), 1);
    says("TEXT 0, at first THE RULE, is: turns 0 ; misses saying ; bounds 9 ;");
    x = new GroundsReadOut();
    due("the rule", x.count(5), 0);
    for (int kind = 0; kind < 2; kind++) x.reader(kind, 0);
    for (int saying = 0; saying < 12; saying += 11) {
      x.cup(bits(1, 4), saying);
      due("not turned", x.sees(0, x.count(1) - 1, 0), bits(1, 4));
      due("its saying is missed", x.sees(0, x.count(1) - 1, 1), 1 << saying);
    }
    x.set(5, 0, 8);
    due("below 9", x.told(0, 7), 1);
    x.set(5, 0, 9);
    due("not below 9", x.told(0, 7), 0);
  }

  /** What a part's E tells of one of number, with slips, at hour, of a cup of grounds, drunk to saying: modulo 12. */
  private static void named(String e, int[] of, int turns, int misses) {
    GroundsReadOut x = ruled(e, e, "9");
    int number = of[0], slips = of[1], hour = of[2], grounds = of[3], saying = of[4], cup = of[5];
    for (int i = 0; i < cup; i++) x.cup(7, 7);
    x.cup(grounds, saying);
    x.reader(ARAB, 5);
    x.reader(READER, number);
    x.set(5, 0, 55);
    x.set(5, 1, slips);
    x.set(1, 0, hour);
    due(e + " as turns, " + Arrays.toString(of), x.sees(1, cup, 0), turned(grounds, turns));
    due(e + " as misses, " + Arrays.toString(of), x.sees(1, cup, 1), 1 << Math.floorMod(misses, 12));
    int read = turned(grounds, turns) & ~(1 << Math.floorMod(misses, 12)) & ~(1 << saying);
    due(e + " as both, " + Arrays.toString(of), x.sees(1, cup, 2), read);
    due(e + " read out, " + Arrays.toString(of), x.read(1, cup), slips < 9 && hour < 999 ? read : STATE);
  }
  private static void namesTell() {
    says("grounds: of how many SAYINGS GROUNDS are; saying: the one it is drunk TO; number: NUMBER; hour: HOUR; slips: SLIPS; cup: its number");
    int[] low = {0, 0, 0, 1, 0, 0}, high = {9, 99, 999, 2047, 11, 5}, mid = {4, 7, 50, 5, 6, 2};
    named("grounds", low, 1, 1);
    named("grounds", high, 11, 11);
    named("grounds", mid, 2, 2);
    named("grounds", new int[] {1, 1, 1, 0, 1, 1}, 0, 0);
    named("grounds", new int[] {1, 1, 1, 4095, 1, 1}, 12, 12);
    named("saying", low, 0, 0);
    named("saying", high, 11, 11);
    named("saying", mid, 6, 6);
    named("number", low, 0, 0);
    named("number", high, 9, 9);
    named("number", mid, 4, 4);
    named("slips", low, 0, 0);
    named("slips", high, 99, 99);
    named("slips", mid, 7, 7);
    named("hour", low, 0, 0);
    named("hour-995", high, 4, 4);
    named("hour", mid, 50, 50);
    named("cup", low, 0, 0);
    named("cup", high, 5, 5);
    named("cup", mid, 2, 2);
    says("(of bounds grounds, saying, cup 0).");
    for (String name : new String[] {"grounds", "saying", "cup"}) {
      for (int kind : new int[] {READER, DREAMER, PROPHET}) {
        GroundsReadOut x = ruled("0", "0", name + " + 3");
        int most = kind == PROPHET ? 6 : 3;
        x.reader(kind, 0);
        x.reader(kind, 0);
        for (int i = 0; i < 6; i++) x.cup(4095, 11);
        x.set(5, 1, most - 1);
        due(name + " is 0", x.told(1, 7), 1);
        due("also in a reading", x.read(1, 5), kind == READER ? 4094 - 2048 : kind == DREAMER ? 0 : 1);
        x.set(5, 1, most);
        due(name + " is 0", x.told(1, 7), 0);
        due("also in a reading", x.read(1, 5), STATE);
      }
    }
    for (String name : new String[] {"number", "hour", "slips"}) {
      GroundsReadOut x = ruled("0", "0", name + " = 7");
      x.reader(READER, 7);
      x.set(1, 0, 7);
      due(name + " of bounds", x.told(0, 7), name.equals("slips") ? 0 : 1);
      x.set(name.equals("hour") ? 1 : 4, 0, 6);
      due(name + " of bounds", x.told(0, 7), 0);
    }
    GroundsReadOut x = ruled("0", "0", "slips + (slips < 5)");
    x.reader(READER, 0);
    x.set(5, 0, 4);
    due("slips of bounds", x.told(0, 7), 1);
    x.set(5, 0, 5);
    due("slips of bounds", x.told(0, 7), 0);
  }

  private static void bounds() {
    says("turns, misses (-99 .. 99, else the bound), bounds (0 .. 99, else the bound).");
    String[] es = {"98", "99", "100", "101", "9999", MOST, "-98", "-99", "-100", "-101", "-9999", LEAST, "0", "-1", "1"};
    int[] due = {98, 99, 99, 99, 99, 99, -98, -99, -99, -99, -99, -99, 0, -1, 1};
    for (int i = 0; i < es.length; i++) {
      GroundsReadOut x = ruled(es[i], es[i], "9");
      x.cup(1, 5);
      x.reader(READER, 0);
      due("turns " + es[i], x.sees(0, 0, 0), 1 << Math.floorMod(due[i], 12));
      due("misses " + es[i], x.sees(0, 0, 1), 1 << Math.floorMod(due[i], 12));
    }
    steadyAt(READER, "98", 97, 1);
    steadyAt(READER, "98", 98, 0);
    for (String most : new String[] {"99", "100", "101", "9999", MOST, "4096*4096*64"}) {
      steadyAt(READER, most, 98, 1);
      steadyAt(READER, most, 99, 0);
      steadyAt(PROPHET, most, 99, 1);
    }
    // Twice the least but one would wrap to 2, if it weren't 0.
    for (String least : new String[] {"0", "-1", "-9999", LEAST, LEAST + "+1", LEAST + "+50"}) {
      steadyAt(READER, least, 0, 0);
      steadyAt(PROPHET, least, 0, 0);
      steadyAt(CLERK, least, 0, 1);
    }
  }

  // ---- reading out

  private static void readOut() {
    says("READ OUT (a CUP by one who is STEADY): what one READS BEARS the SAYING the CUP is drunk TO, as a REASON more; SLIPS is 1 more, if that is nothing (99 at most); HOUR is 1 more.");
    GroundsReadOut x = new GroundsReadOut();
    x.reader(ARAB, 0);
    x.reader(ARAB, 0);
    x.cup(0, 4);
    x.cup(4095, 11);
    x.reason(1, 2);
    due("nothing is read", x.read(0, 0), 0);
    due("it is a reason all the same", x.count(2), 2);
    due("of no sayings", x.told(1, 8), 0);
    due("for 4", x.told(1, 9), 4);
    due("a slip", x.told(0, 5), 1);
    due("an hour", x.told(0, 1), 1);
    due("much is read", x.read(0, 1), 2047);
    due("that is a reason", x.told(2, 8), 2047);
    due("for 11", x.told(2, 9), 11);
    due("no slip more", x.told(0, 5), 1);
    due("an hour", x.told(0, 1), 2);
    for (int slips : new int[] {97, 98, 99}) {
      x.set(5, 0, slips);
      due("nothing is read", x.read(0, 0), 0);
      due("slips after " + slips, x.told(0, 5), Math.min(99, slips + 1));
    }
    due("the other has none", x.told(1, 5), 0);
    x.set(1, 0, 998);
    due("at 998", x.read(1, 0), 0);
    due("999", x.told(0, 1), 999);
    due("at 999", x.read(1, 0), STATE);
    due("its slip alone", x.told(1, 5), 1);
  }

  public static void main(String[] args) throws IOException {
    calls512();
    sayings();
    opposites();
    atFirst();
    atMost();
    kinds();
    numbersAndSlips();
    constants();
    seesByTurns();
    seesByHand();
    overlooks();
    reads();
    steady();
    tape();
    everyByte();
    tokensAsLongAsCanBe();
    grammar();
    bindings();
    names();
    ints();
    faults();
    openOnes();
    texts();
    namesTell();
    bounds();
    readOut();
    end(args);
  }
}
