/** Each promise by hand: ordinary inputs, the edges that the document names, wrong inputs. */
public final class PromisesTest {
  private static final int NONE = -1, BAD = -2, STATE = -3, FULL = -4;
  private static final int MIN = Integer.MIN_VALUE, MAX = Integer.MAX_VALUE;
  private static int wrong = 0, looked = 0;

  private static void due(String call, long got, long want) {
    looked++;
    if (got != want) {
      wrong++;
      System.out.println(call + " answered " + got + ", due is " + want);
    }
  }
  private static void dues(String call, long want, long... got) {
    for (int i = 0; i < got.length; i++) due(call + " #" + i, got[i], want);
  }
  private static int bits(int... sayings) {
    int b = 0;
    for (int k : sayings) b |= 1 << k;
    return b;
  }
  private static int write(GroundsReadOut x, String text) {
    for (int i = 0; i < text.length(); i++) x.feed(text.charAt(i));
    return x.text();
  }
  /** An object with this text as THE RULE. */
  private static GroundsReadOut ruled(String text) {
    GroundsReadOut x = new GroundsReadOut();
    due("text " + text, write(x, text), 1);
    x.force(1);
    return x;
  }
  /** What an E tells as misses, by a READER of number 3 with 2 slips at hour 7, of cup 1 (5 grounds, to 4). */
  private static void tells(String e, int want) {
    GroundsReadOut x = ruled("turns " + e + "; misses 0 ; bounds 9 ;");
    x.cup(0, 0);
    x.cup(bits(0, 1, 2, 3, 4), 4);
    x.reader(0, 3);
    x.set(5, 0, 2);
    x.set(1, 0, 7);
    int seen = 0;
    for (int k = 0; k < 5; k++) seen |= 1 << Math.floorMod(k + want, 12);
    due(e, x.sees(0, 1, 0), seen);
  }
  private static void fault(String text, int place) {
    GroundsReadOut x = new GroundsReadOut();
    due("fault of '" + text + "'", write(x, text), -100 - place);
    due("the tape is empty then", x.count(4), 0);
    due("no text came", x.count(3), 1);
  }

  private static void promise1() {
    GroundsReadOut x = new GroundsReadOut();
    dues("new: nothing", 0, x.told(0, 0), x.told(0, 1), x.count(0), x.count(1), x.count(2), x.count(4), x.count(5));
    due("new: text 0", x.count(3), 1);
    dues("new: all sheets are missing", -11, x.cell(0, 0, 0), x.cell(1, 0, 0), x.cell(2, 0, 0), x.cell(3, 0, 0));
    due("new: no image", x.back(), STATE);
    due("NO", GroundsReadOut.NO, -4611686018427387904L);
    due("the objects share nothing", x.set(0, 0, 5), 0);
    due("the objects share nothing", new GroundsReadOut().told(0, 0), 0);
  }

  private static void promise2() {
    GroundsReadOut x = new GroundsReadOut();
    x.cup(3, 4);
    x.cup(5, 6);
    x.reader(0, 7);
    x.reader(1, 8);
    due("said", x.set(0, MIN, 4095), 0);
    due("said", x.set(0, MAX, 0), 4095);
    due("hour", x.set(1, -7, 999), 0);
    due("hour", x.set(1, 9, 0), 999);
    due("grounds", x.set(2, 1, 4095), 5);
    due("to", x.set(3, 1, 11), 6);
    due("number", x.set(4, 1, 9), 8);
    due("slips", x.set(5, 1, 99), 0);
    due("slips", x.set(5, 1, 1), 99);
    due("the other stays", x.told(0, 2) + x.told(0, 3) + x.told(0, 4) + x.told(0, 5), 3 + 4 + 7);
    due("they changed", x.told(1, 2) + x.told(1, 3) + x.told(1, 4) + x.told(1, 5), 4095 + 11 + 9 + 1);
    dues("bad what", BAD, x.set(-1, 0, 0), x.set(6, 0, 0), x.set(MIN, 0, 0), x.set(MAX, 0, 0));
    dues("bad v", BAD, x.set(0, 0, -1), x.set(0, 0, 4096), x.set(1, 0, -1), x.set(1, 0, 1000), x.set(2, 0, -1),
        x.set(2, 0, 4096), x.set(3, 0, -1), x.set(3, 0, 12), x.set(4, 0, -1), x.set(4, 0, 10), x.set(5, 0, -1), x.set(5, 0, 100));
    dues("bad of", BAD, x.set(2, -1, 0), x.set(2, 2, 0), x.set(3, -1, 0), x.set(3, 2, 0), x.set(4, -1, 0),
        x.set(4, 2, 0), x.set(5, -1, 0), x.set(5, 2, 0), x.set(5, MAX, 0), x.set(2, MIN, 0));
    due("nothing changed", x.told(0, 2) + x.told(0, 3) + x.told(0, 4) + x.told(0, 5), 3 + 4 + 7);
  }

  private static void promise3() {
    GroundsReadOut x = new GroundsReadOut();
    dues("bad cup", BAD, x.cup(-1, 0), x.cup(4096, 0), x.cup(0, -1), x.cup(0, 12), x.cup(MIN, MAX));
    for (int i = 0; i < 6; i++) due("cup", x.cup(i * 800, i), i);
    due("full", x.cup(0, 0), FULL);
    due("bad comes ahead of full", x.cup(4096, 0), BAD);
    due("six", x.count(1), 6);
    due("grounds", x.told(5, 2), 4000);
    due("to", x.told(5, 3), 5);
  }

  private static void promise4() {
    GroundsReadOut x = new GroundsReadOut();
    dues("bad reason", BAD, x.reason(-1, 0), x.reason(4096, 0), x.reason(0, -1), x.reason(0, 12), x.reason(8, 3),
        x.reason(4095, 11), x.reason(0, 32), x.reason(MIN, MIN));
    for (int i = 0; i < 12; i++) due("reason", x.reason(4095 & ~(1 << i), i), i);
    due("full", x.reason(0, 0), FULL);
    due("bad comes ahead of full", x.reason(1, 0), BAD);
    due("its set", x.told(11, 8), 2047);
    due("its saying", x.told(11, 9), 11);
  }

  private static void promise5() {
    GroundsReadOut x = new GroundsReadOut();
    due("none", x.unsay(), STATE);
    x.reason(1, 1);
    x.reason(2, 2);
    due("the last goes", x.unsay(), 1);
    due("the first stays", x.told(0, 8), 1);
    due("the last is gone", x.told(1, 8), BAD);
    due("only one is left", x.follows(3, 0), 3);
    due("the first goes", x.unsay(), 0);
    due("none", x.unsay(), STATE);
  }

  private static void promise6() {
    GroundsReadOut x = new GroundsReadOut();
    dues("bad reader", BAD, x.reader(-1, 0), x.reader(6, 0), x.reader(0, -1), x.reader(0, 10), x.reader(MIN, 0), x.reader(0, MAX));
    for (int i = 0; i < 5; i++) due("reader", x.reader(5 - i, 9 - i), i);
    due("full", x.reader(0, 0), FULL);
    due("bad comes ahead of full", x.reader(6, 0), BAD);
    due("kind", x.told(4, 6), 1);
    due("number", x.told(4, 4), 5);
    due("slips", x.told(4, 5), 0);
  }

  private static void promise7() {
    GroundsReadOut x = new GroundsReadOut();
    x.set(0, 0, 77);
    x.set(1, 0, 88);
    dues("said and hour of any", 77, x.told(MIN, 0), x.told(-1, 0), x.told(MAX, 0));
    due("hour of any", x.told(99, 1), 88);
    for (int what = 2; what < 10; what++) dues("there is none yet " + what, BAD, x.told(0, what), x.told(-1, what), x.told(MAX, what));
    dues("bad what", BAD, x.told(0, -1), x.told(0, 10), x.told(0, 11), x.told(0, MIN), x.told(0, MAX));
    for (int kind = 0; kind < 5; kind++) x.reader(kind, 0);
    // By THE RULE bounds is 9: a PROPHET is steady below 18.
    int[][] steady = {{1, 8}, {0, 9}, {0, 17}, {0, 18}, {0, 99}};
    for (int[] s : steady) {
      for (int one = 0; one < 5; one++) x.set(5, one, s[1]);
      dues("reader, dreamer at " + s[1], s[0], x.told(0, 7), x.told(2, 7));
      dues("clerk, widow at " + s[1], 1, x.told(1, 7), x.told(3, 7));
      due("prophet at " + s[1], x.told(4, 7), s[1] < 18 ? 1 : 0);
    }
    x = new GroundsReadOut();
    x.reader(5, 0);
    x.set(5, 0, 99);
    due("arab", x.told(0, 7), 1);
    x = ruled("turns 0 ; misses 0 ; bounds grounds + saying + cup + number*10 + hour ;");
    x.cup(4095, 11);
    x.cup(4095, 11);
    x.reader(0, 2);
    x.set(1, 0, 3);
    x.set(5, 0, 23);
    due("of bounds grounds, saying, cup are 0", x.told(0, 7), 0);
    x.set(5, 0, 22);
    due("of bounds grounds, saying, cup are 0", x.told(0, 7), 1);
    x = ruled("turns 0 ; misses 0 ; bounds 9999 ;");
    x.reader(0, 2);
    x.reader(4, 2);
    x.set(5, 0, 99);
    x.set(5, 1, 99);
    due("bounds is 99 at most", x.told(0, 7), 0);
    due("twice that for a prophet", x.told(1, 7), 1);
    x.set(5, 0, 98);
    due("bounds is 99 at most", x.told(0, 7), 1);
    x = ruled("turns 0 ; misses 0 ; bounds - 5 ;");
    x.reader(0, 2);
    due("bounds is 0 at least", x.told(0, 7), 0);
  }

  private static void promise8() {
    GroundsReadOut x = ruled("turns 5 ; misses 14 ; bounds 9 ;");
    x.cup(bits(1, 4, 9), 6);
    for (int kind = 0; kind < 5; kind++) x.reader(kind, 4);
    due("reader sees", x.sees(0, 0, 0), bits(6, 9, 2));
    due("clerk sees", x.sees(1, 0, 0), bits(5, 2, 9));
    due("dreamer sees", x.sees(2, 0, 0), bits(6, 9, 2, 4));
    due("widow sees", x.sees(3, 0, 0), bits(2, 9));
    due("prophet sees", x.sees(4, 0, 0), 4095 & ~bits(6, 9, 2, 4));
    due("reader overlooks", x.sees(0, 0, 1), bits(2));
    due("clerk overlooks", x.sees(1, 0, 1), 0);
    due("dreamer overlooks", x.sees(2, 0, 1), 4095 & ~3);
    due("widow overlooks", x.sees(3, 0, 1), bits(4));
    due("prophet overlooks at an even hour", x.sees(4, 0, 1), 0);
    due("reader reads", x.sees(0, 0, 2), bits(9));
    due("clerk reads", x.sees(1, 0, 2), bits(5, 2, 9));
    due("dreamer reads", x.sees(2, 0, 2), 0);
    due("widow reads", x.sees(3, 0, 2), bits(2, 9));
    due("prophet reads", x.sees(4, 0, 2), 4095 & ~bits(6, 9, 2, 4));
    x.set(1, 0, 999);
    due("prophet overlooks at an odd hour", x.sees(4, 0, 1), 4095 & ~3);
    due("prophet reads at an odd hour", x.sees(4, 0, 2), 3);
    x.set(4, 2, 9);
    due("dreamer without number, if it is of it", x.sees(2, 0, 0), bits(6, 2));
    dues("bad", BAD, x.sees(-1, 0, 0), x.sees(5, 0, 0), x.sees(0, -1, 0), x.sees(0, 1, 0), x.sees(0, 0, -1), x.sees(0, 0, 3),
        x.sees(MAX, MIN, 0));
    x = ruled("turns - 1 ; misses - 1 ; bounds 9 ;");
    x.cup(bits(0, 11), 3);
    x.reader(0, 0);
    x.reader(5, 0);
    x.reader(2, 0);
    due("turned the other way", x.sees(0, 0, 0), bits(11, 10));
    due("what is missed is made 0 or more", x.sees(0, 0, 1), bits(11));
    due("arab sees", x.sees(1, 0, 0), bits(0, 11));
    due("arab overlooks", x.sees(1, 0, 1), 0);
    due("dreamer overlooks the last", x.sees(2, 0, 1), bits(11));
    x = ruled("turns 9999 ; misses - 9999 ; bounds 9 ;");
    x.cup(1, 3);
    x.reader(0, 0);
    due("turns is 99 at most", x.sees(0, 0, 0), bits(3));
    due("misses is -99 at least", x.sees(0, 0, 1), bits(9));
    x = ruled("turns 0 - 9999 ; misses 9999 ; bounds 9 ;");
    x.cup(1, 3);
    x.reader(0, 0);
    due("turns is -99 at least", x.sees(0, 0, 0), bits(9));
    due("misses is 99 at most", x.sees(0, 0, 1), bits(3));
    x = ruled("turns grounds ; misses 0 ; bounds 9 ;");
    x.cup(bits(0, 1), 11);
    x.reader(3, 0);
    x.reader(4, 0);
    due("a widow's turns are of all grounds", x.sees(0, 0, 0), bits(8));
    due("a prophet's turns are of the grounds", x.sees(1, 0, 0), 4095 & ~bits(2, 3, 0));
  }

  private static void promise9() {
    GroundsReadOut x = new GroundsReadOut();
    dues("bad", BAD, x.feed(-1), x.feed(256), x.feed(MIN), x.feed(MAX));
    for (int i = 1; i <= 160; i++) due("feed", x.feed(i == 1 ? 0 : i == 2 ? 255 : ' '), i);
    due("full", x.feed(' '), FULL);
    due("bad comes ahead of full", x.feed(256), BAD);
    due("it stays", x.count(4), 160);
  }

  private static void promise10() {
    expressions();
    faults();
    openOnes();
    tapeAnew();
    GroundsReadOut x = new GroundsReadOut();
    for (int i = 1; i < 6; i++) {
      due("text", write(x, "turns " + i + ";misses 0;bounds 9;"), i);
      due("empty then", x.count(4), 0);
    }
    due("six", x.count(3), 6);
    x.feed('a');
    due("full", x.text(), FULL);
    due("the tape stays", x.count(4), 1);
    due("no more", x.count(3), 6);
    x = new GroundsReadOut();
    StringBuilder longest = new StringBuilder("turns 1");
    while (longest.length() < 160 - ";misses 0;bounds 9;".length()) longest.append(longest.length() % 2 == 1 ? '+' : '1');
    if (longest.charAt(longest.length() - 1) == '+') longest.setCharAt(longest.length() - 1, ' ');
    due("160 bytes", write(x, longest + ";misses 0;bounds 9;"), 1);
  }

  private static void expressions() {
    tells("0", 0);
    tells("9", 9);
    tells("0007", 7);
    tells("grounds", 5);
    tells("saying", 4);
    tells("number", 3);
    tells("hour", 7);
    tells("slips", 2);
    tells("cup", 1);
    tells("1+2*3", 7);
    tells("(1+2)*3", 9);
    tells("9-3-2", 4);
    tells("9-(3-2)", 8);
    tells("-2*3", -6);
    tells("2*-3", -6);
    tells("- -5", 5);
    tells("2--3", 5);
    tells("7-2+1", 6);
    tells("2<3", 1);
    tells("3<2", 0);
    tells("2<2", 0);
    tells("2=2", 1);
    tells("2=3", 0);
    tells("1+1=2", 1);
    tells("(1<2)+(2<3)", 2);
    tells("not 0", 1);
    tells("not 7", 0);
    tells("not not 7", 1);
    tells("not 1 = 2", 1);
    tells("(not 1) = 0", 1);
    tells("5 or 0", 1);
    tells("0 or 0", 0);
    tells("0 or -3", 1);
    tells("5 and 6", 1);
    tells("5 and 0", 0);
    tells("1 or 0 and 0", 1);
    tells("(1 or 0) and 0", 0);
    tells("not 0 or 1", 1);
    tells("not 1 and 0", 0);
    tells("(5 or 0) * 7", 7);
    tells("2or 3", 1);
    tells("0\nor\n\n4<5", 1);
    // 99980001 * 22 passes the largest int; 99980001 * 43 is 4172747 beyond 2 to the 32nd.
    tells("9999*9999*22 < 0", 1);
    tells("(9999*9999*43 = 9999*417 + 3164) * 3", 3);
  }

  private static void faults() {
    fault("", 0);
    fault(" \n ", 3);
    fault("turns 0 ; misses saying ; bounds 9 ", 35);
    fault("turns 0 ; misses saying ; bounds 9", 34);
    fault("turns 0 ; misses saying ;", 25);
    fault("turns 0 ; misses saying ; bounds 9 ; ;", 37);
    fault("turns 0 ; misses saying ; bounds 9 ;x", 36);
    fault("turn 0 ;", 0);
    fault("turnsx 0 ;", 0);
    fault("  misses 0 ;", 2);
    fault("turns ;", 6);
    fault("turns turns;", 6);
    fault("turns 12345;", 6);
    fault("turns 00000;", 6);
    fault("turns 1 2;", 8);
    fault("turns 1 x;", 8);
    fault("turns grounds saying;", 14);
    fault("turns cups;", 6);
    fault("turns cupz;", 6);
    fault("turns cupa;", 6);
    fault("turns cu;", 6);
    fault("turns xup;", 6);
    fault("turns cux;", 6);
    fault("turns 1 xr 1;", 8);
    fault("turns 1 xnd 1;", 8);
    fault("turns xot 1;", 6);
    fault("turns 12" + (char) ('0' - 1) + ";", 8);
    fault("turns 12" + (char) ('9' + 1) + ";", 8);
    fault("turns cup" + (char) ('a' - 1) + ";", 9);
    fault("turns cup" + (char) ('z' + 1) + ";", 9);
    fault("turns Cup;", 6);
    fault("turns cuP;", 6);
    fault("turns 1\t;", 7);
    fault("turns 1\r;", 7);
    fault("turns 1" + (char) 0 + ";", 7);
    fault("turns 1" + (char) 255 + ";", 7);
    fault("turns 1 / 2;", 8);
    fault("turns 1 > 2;", 8);
    fault("turns 1 < 2 < 3;", 12);
    fault("turns 1 = 2 < 3;", 12);
    fault("turns 1 < 2 = 3;", 12);
    fault("turns 1 + not 2;", 10);
    fault("turns 1 < not 2;", 10);
    fault("turns - not 2;", 8);
    fault("turns 1 + + 2;", 10);
    fault("turns 1 * ;", 10);
    fault("turns 1 or ;", 11);
    fault("turns or 1;", 6);
    fault("turns (1;", 8);
    fault("turns 1);", 7);
    fault("turns ();", 7);
    fault("turns 1; bounds 1;", 9);
    fault("turns 1 bounds 1;", 8);
    fault("turns 1 misses 1;", 8);
    fault("turns 1; misses 1; or 1;", 19);
    fault("and 1; misses 1; bounds 1;", 0);
    fault("turns 1; misses 1; misses 1;", 19);
    // The first fault counts, though a later byte begins no token.
    fault("turns 1 2 ?", 8);
    fault("turns ; ?", 6);
    fault("turns (", 7);
    fault("turns 1 <", 9);
  }

  /** What an earlier tape left behind must not be read again. */
  private static void tapeAnew() {
    GroundsReadOut x = new GroundsReadOut();
    due("a word", write(x, "xxxxxxxxxxxxxxxxxxxx"), -100);
    due("ends too early", write(x, "turns"), -105);
    due("a number", write(x, "99999999999999999999"), -100);
    due("ends too early", write(x, "turns 1234"), -110);
    for (int i = 0; i < 160; i++) x.feed(';');
    due("160 tokens", x.text(), -100);
    due("the rest of them is gone", write(x, "turns 1;misses 1;bounds 1;"), 1);
    due("an empty tape", x.text(), -100);
  }

  private static void openOnes() {
    tells("(((((8)))))", 8);
    tells("-----8", -8);
    tells("not not not not not 8", 0);
    tells("-(-(-8))", -8);
    tells("(1)+(1)+(1)+(1)+(1)+(1)+(1)", 7);
    tells("-1-1-1 - -1 - -1 - -1 - -1", 1);
    tells("not 1 or not 1 or not 1 or not 1 or not 1 or not 0", 1);
    tells("((((-1)))) + ((((-2))))", -3);
    fault("turns ((((((8))))));", 11);
    fault("turns ------8;", 11);
    fault("turns not not not not not not 8;", 26);
    fault("turns not not not (( not 8));", 21);
    fault("turns ((((( 1 * - 1)))));", 16);
    fault("turns ((((( not 1)))));", 12);
    fault("turns not (not (1 < -(1)));", 21);
    fault("turns (((((1 - 1))))) ; misses ((((((", 36);
  }

  private static void promise11() {
    GroundsReadOut x = new GroundsReadOut();
    dues("bad", BAD, x.force(-1), x.force(1), x.force(MIN), x.force(MAX), x.force(6));
    due("the rule is 0", x.force(0), 0);
    write(x, "turns 1;misses 0;bounds 0;");
    due("it isn't yet", x.count(5), 0);
    x.reader(0, 0);
    x.cup(1, 5);
    due("by text 0", x.sees(0, 0, 0), 1);
    due("force", x.force(1), 0);
    due("by text 1", x.sees(0, 0, 0), 2);
    due("not steady by it", x.told(0, 7), 0);
    due("force", x.force(0), 1);
    due("by text 0", x.sees(0, 0, 0), 1);
    due("bad", x.force(2), BAD);
  }

  private static void promise12() {
    GroundsReadOut x = new GroundsReadOut();
    x.reader(0, 0);
    x.reader(5, 0);
    x.cup(bits(1, 2, 3), 3);
    x.cup(0, 1);
    dues("bad", BAD, x.read(-1, 0), x.read(2, 0), x.read(0, -1), x.read(0, 2), x.read(MAX, MIN));
    due("read", x.read(0, 0), bits(1, 2));
    due("a reason", x.told(0, 8), bits(1, 2));
    due("that bears", x.told(0, 9), 3);
    due("no slip", x.told(0, 5), 0);
    due("an hour", x.told(0, 1), 1);
    due("read nothing", x.read(0, 1), 0);
    due("a slip", x.told(0, 5), 1);
    due("not the other's", x.told(1, 5), 0);
    x.set(5, 0, 9);
    due("not steady", x.read(0, 0), STATE);
    due("nothing changed", x.told(0, 1), 2);
    x.set(5, 1, 98);
    x.read(1, 1);
    due("99 slips", x.told(1, 5), 99);
    x.read(1, 1);
    due("99 at most", x.told(1, 5), 99);
    x.set(1, 0, 999);
    due("the last hour", x.read(1, 0), STATE);
    x.set(1, 0, 998);
    due("the last but one", x.read(1, 0), bits(1, 2));
    due("the last hour", x.told(0, 1), 999);
    while (x.count(2) < 12) x.reason(0, 0);
    due("state comes ahead of full", x.read(1, 0), STATE);
    due("bad comes ahead of state", x.read(2, 0), BAD);
    x.set(1, 0, 0);
    due("full", x.read(1, 0), FULL);
    due("full changes nothing", x.told(0, 1), 0);
  }

  private static GroundsReadOut chain() {
    GroundsReadOut x = new GroundsReadOut();
    for (int k = 10; k >= 0; k--) x.reason(1 << k, k + 1);
    return x;
  }

  private static void promise13() {
    GroundsReadOut x = chain();
    due("all follow", x.follows(1, 0), 4095);
    due("in eleven rounds", x.follows(1, 1), 11);
    due("they clash", x.follows(1, 2), 1);
    due("some follow", x.follows(bits(7), 0), bits(7, 8, 9, 10, 11));
    due("in four", x.follows(bits(7), 1), 4);
    due("without a clash", x.follows(bits(7), 2), 0);
    due("nothing follows", x.follows(0, 0), 0);
    due("in none", x.follows(0, 1), 0);
    due("all is there", x.follows(4095, 1), 0);
    x.reason(0, 0);
    due("from nothing", x.follows(0, 0), 4095);
    due("in twelve", x.follows(0, 1), 12);
    dues("bad", BAD, x.follows(-1, 0), x.follows(4096, 0), x.follows(0, -1), x.follows(0, 3), x.follows(MIN, MAX));
    x = new GroundsReadOut();
    for (int k = 0; k < 6; k++) {
      due("opposite", x.follows(bits(k, k + 6), 2), 1);
      due("not opposite", x.follows(bits(k, (k + 5) % 12), 2), 0);
    }
    x.reason(bits(1, 2), 3);
    due("all of the set is asked", x.follows(bits(1), 0), bits(1));
    due("both", x.follows(bits(1, 2), 0), bits(1, 2, 3));
  }

  private static void promise14() {
    GroundsReadOut x = new GroundsReadOut();
    dues("bad", BAD, x.best(-1), x.best(6), x.best(MIN), x.best(MAX));
    x.set(0, 0, bits(0, 1, 2, 9));
    x.reason(bits(0), 1);
    x.reason(bits(1), 0);
    due("of like ones the least", x.best(0), bits(0, 2, 9));
    due("three", x.best(1), 3);
    x.reason(bits(5), 9);
    due("only what was said can be of it", x.best(0), bits(0, 2, 9));
    x.reason(bits(0, 1), 9);
    due("by two rounds", x.best(0), bits(0, 2));
    due("two", x.best(1), 2);
    x = new GroundsReadOut();
    x.set(0, 0, bits(1));
    x.reason(0, 1);
    due("by nothing", x.best(0), 0);
    due("none", x.best(1), 0);
    x = new GroundsReadOut();
    x.set(0, 0, bits(8, 9));
    x.reason(bits(1), 8);
    x.reason(bits(1), 9);
    x.reason(bits(2), 1);
    due("not by 1, which was not said", x.best(0), bits(8, 9));
    due("all is at peace", x.best(2), bits(8, 9));
    due("two", x.best(3), 2);
    x.reason(bits(9, 8), 1);
    x.reason(bits(1), 7);
    due("but for what follows", x.best(2), bits(8));
    x = new GroundsReadOut();
    x.set(0, 0, bits(0, 6, 1, 8));
    due("peace: the least of like ones", x.best(2), bits(0, 1, 8));
    due("three", x.best(3), 3);
    due("no reasons", x.best(4), NONE);
    due("none in vain", x.best(5), 0);
    x.reason(bits(1), 2);
    x.reason(bits(8), 4);
    x.reason(bits(0), 8);
    due("1 brings 2 that is opposite of 8", x.best(2), bits(1, 6));
    due("two", x.best(3), 2);
    due("strike the first", x.best(4), 0);
    x.reason(bits(1), 4);
    x.reason(bits(4), 10);
    due("4 brings its opposite", x.best(2), bits(6));
    due("one", x.best(3), 1);
    due("strike 8 for 4, ahead of 4 for 10", x.best(4), 1);
    x.unsay();
    x.reason(bits(2), 8);
    x.reason(bits(4), 10);
    due("without 4 for 10 there is still 2 for 8", x.best(3), 1);
    x = new GroundsReadOut();
    x.reason(0, 0);
    x.reason(0, 6);
    x.reason(0, 1);
    x.reason(0, 7);
    dues("no peace", NONE, x.best(2), x.best(3));
    due("of like ones the first", x.best(4), 0);
    x = new GroundsReadOut();
    x.reason(bits(1), 2);
    x.reason(bits(2), 3);
    x.reason(bits(1), 3);
    x.reason(bits(1, 5), 2);
    x.reason(bits(4), 5);
    x.reason(bits(4), 5);
    due("vain: also both of like ones", x.best(5), bits(2, 3, 4, 5));
  }

  private static void promise15() {
    GroundsReadOut x = chain();
    due("why", x.why(11, 0), 1);
    due("by one", x.why(11, 1), 1);
    dues("nothing bears it", NONE, x.why(0, 0), x.why(0, 1));
    due("why", x.why(1, 0), 1);
    x.reason(0, 5);
    due("by nothing", x.why(11, 0), 0);
    due("of none", x.why(11, 1), 0);
    due("below it not", x.why(4, 0), 1);
    x = new GroundsReadOut();
    x.reason(bits(9, 10, 11), 0);
    due("three", x.why(0, 0), bits(9, 10, 11));
    x.reason(bits(7, 8), 0);
    due("fewest", x.why(0, 0), bits(7, 8));
    x.reason(bits(6, 9), 0);
    due("fewest", x.why(0, 0), bits(7, 8));
    x.reason(bits(6, 8), 0);
    due("of like ones the least", x.why(0, 0), bits(6, 8));
    due("two", x.why(0, 1), 2);
    due("what was said does not matter", x.set(0, 0, 1), 0);
    due("two", x.why(0, 1), 2);
    x = new GroundsReadOut();
    x.reason(bits(1), 2);
    x.reason(bits(2), 1);
    due("not by itself", x.why(1, 0), bits(2));
    dues("bad", BAD, x.why(-1, 0), x.why(12, 0), x.why(0, -1), x.why(0, 2), x.why(MIN, 0), x.why(32, 0));
  }

  private static void promise16() {
    GroundsReadOut x = new GroundsReadOut();
    x.reader(5, 0);
    x.set(0, 0, bits(1, 2));
    due("no cups", x.next(0, 0), NONE);
    due("as so", x.next(0, 1), 2);
    due("no twos", x.next(0, 2), 0);
    x.cup(bits(3), 4);
    x.cup(bits(1), 5);
    x.cup(bits(2), 6);
    x.cup(bits(3, 9), 9);
    due("of like ones the first", x.next(0, 0), 1);
    due("three", x.next(0, 1), 3);
    due("the same dog", x.next(0, 2), 1);
    x.reason(bits(6), 7);
    due("more by the third", x.next(0, 0), 2);
    due("four", x.next(0, 1), 4);
    due("truly there is no more", x.count(2), 1);
    due("nor an hour", x.told(0, 1), 0);
    x.cup(bits(3, 10), 10);
    due("three twos of three", x.next(0, 2), 3);
    x.set(1, 0, 999);
    due("also at the last hour", x.next(0, 0), 2);
    while (x.count(2) < 11) x.reason(bits(11), 0);
    due("eleven", x.next(0, 0), 2);
    x.reason(bits(11), 0);
    due("twelve", x.next(0, 0), NONE);
    due("as so", x.next(0, 1), 2);
    dues("bad", BAD, x.next(-1, 0), x.next(1, 0), x.next(0, -1), x.next(0, 3), x.next(MAX, MIN));
    x = new GroundsReadOut();
    x.reader(0, 0);
    x.set(5, 0, 50);
    x.cup(0, 4);
    due("also by one who isn't steady", x.next(0, 0), 0);
    due("one", x.next(0, 1), 1);
  }

  private static void promise17() {
    GroundsReadOut x = new GroundsReadOut();
    x.reader(5, 0);
    x.reader(0, 0);
    x.reader(1, 0);
    x.cup(bits(1, 2), 2);
    x.cup(bits(5, 6), 3);
    x.cup(bits(3), 3);
    due("arab and reader", x.alike(0, 1), 7);
    due("arab and clerk", x.alike(0, 2), 2);
    due("the other way round", x.alike(2, 0), 2);
    dues("bad", BAD, x.alike(0, 0), x.alike(-1, 0), x.alike(0, 3), x.alike(3, 3), x.alike(MIN, MAX));
  }

  private static void promise18() {
    GroundsReadOut x = new GroundsReadOut();
    long[][] shares = {{0, 1}, {1, 12}, {1, 6}, {1, 4}, {1, 3}, {5, 12}, {1, 2}, {7, 12}, {2, 3}, {3, 4}, {5, 6}, {11, 12}, {1, 1}};
    for (int n = 0; n <= 12; n++) {
      x.set(0, 0, (1 << n) - 1);
      due("above " + n, x.share(0), shares[n][0]);
      due("below " + n, x.share(1), shares[n][1]);
    }
    x.set(0, 0, 1);
    x.reason(1, 5);
    due("what follows counts", x.share(1), 6);
    dues("no", GroundsReadOut.NO, x.share(-1), x.share(2), x.share(MIN), x.share(MAX));
  }

  private static void promise19() {
    GroundsReadOut x = new GroundsReadOut();
    x.reader(4, 3);
    x.reader(0, 3);
    x.cup(bits(0, 1, 2, 3, 4, 5, 6, 7, 8, 9, 10), 11);
    x.cup(4095, 3);
    write(x, "turns hour - 5 ; misses 0 ; bounds 9 ;");
    write(x, "turns (hour = 7) * number ; misses 0 ; bounds 9 ;");
    due("missing", x.tells(0, 0, 0), -11);
    x.sheet(0, 2, 3);
    due("more than there are cups", x.tells(0, 0, 0), BAD);
    dues("bad ahead of missing", BAD, x.tells(1, 2, 0), x.tells(1, 0, 7), x.tells(1, 0, -1), x.tells(4, 0, 0), x.tells(-1, 0, 0),
        x.tells(1, -1, 0), x.tells(MIN, MAX, MIN));
    x.sheet(0, 2, 0);
    due("nothing told", x.tells(0, 0, 0), NONE);
    dues("all kinds", 63, x.tells(0, 0, 1));
    dues("all numbers", 1023, x.tells(0, 0, 2));
    dues("all hours", 100, x.tells(0, 0, 3));
    dues("from 0 on", 0, x.tells(0, 0, 4));
    dues("all texts", 7, x.tells(0, 0, 5));
    dues("all readers", 3, x.tells(0, 0, 6));
    // The prophet sees SAYING 11 alone and 3: at odd hours misses from 11 on, what the cup is drunk to, too.
    x.film(0, 0);
    due("so", x.tells(0, 0, 0), NONE);
    due("the other reads otherwise", x.tells(0, 1, 0), 0);
    due("the number", x.tells(0, 0, 2), bits(3));
    due("any hour", x.tells(0, 0, 3), 100);
    x.cell(0, 1, 1);
    due("the second is otherwise", x.tells(0, 0, 0), 1);
    dues("nothing is so", 0, x.tells(0, 0, 1), x.tells(0, 0, 2), x.tells(0, 0, 3), x.tells(0, 0, 5), x.tells(0, 0, 6));
    due("no hour", x.tells(0, 0, 4), NONE);
    x.force(1);
    x.set(2, 0, bits(1, 2));
    x.set(1, 0, 30);
    x.sheet(0, 1, 1);
    x.cell(0, 0, bits(1, 2));
    due("turned by 25", x.tells(0, 1, 0), 0);
    due("hours 5, 17, 29, .. 89", x.tells(0, 1, 3), 8);
    due("the least", x.tells(0, 1, 4), 5);
    due("the hour stays", x.told(0, 1), 30);
    due("texts", x.tells(0, 1, 5), bits(0, 2));
    due("the rule stays", x.count(5), 1);
    x.sheet(1, 0, 1);
    x.cell(1, 0, 200);
    x.set(2, 0, 200);
    x.set(1, 0, 5);
    due("a byte is below 0 there", x.tells(1, 1, 0), 0);
    x.reader(5, 0);
    x.set(2, 0, 100);
    x.cell(1, 0, 100);
    due("readers", x.tells(1, 0, 6), bits(1, 2));
  }

  private static void promise20() {
    GroundsReadOut x = new GroundsReadOut();
    x.reader(1, 0);
    due("no cups", x.film(0, 0), 0);
    due("an empty row", x.cell(0, 0, 0), -12);
    x.cup(bits(0, 11), 0);
    x.cup(4095, 11);
    x.sheet(3, 2, 40);
    due("two", x.film(3, 0), 2);
    due("two items", x.cell(3, 2, 0), -12);
    due("as read", x.tells(3, 0, 0), NONE);
    due("shorts", x.house(3, 1, 0, 0), 0);
    due("of no other sort", x.house(3, 2, 0, 0), -13);
    due("nothing is read out", x.count(2) + x.told(0, 1), 0);
    dues("bad", BAD, x.film(-1, 0), x.film(4, 0), x.film(0, -1), x.film(0, 1), x.film(MAX, MIN));
  }

  private static void promise21() {
    GroundsReadOut x = new GroundsReadOut();
    dues("bad", BAD, x.drawn(0, -1), x.drawn(0, 13), x.drawn(0, MIN), x.drawn(0, MAX));
    x.set(0, 0, 3);
    due("nobody reads", x.drawn(5, 12), 2);
    for (int i = 0; i < 5; i++) x.reader(5, 0);
    for (int i = 0; i < 6; i++) x.cup(0, i + 5);
    for (int seed = -15; seed < 15; seed++) {
      for (int n = 0; n <= 12; n++) due("drawn(" + seed + ", " + n + ")", x.drawn(seed, n), drawnOf(seed, n));
    }
    due("truly nothing was read", x.count(2) + x.told(0, 1) + x.told(0, 5), 0);
    x.set(1, 0, 999);
    due("the hour may pass 999", x.drawn(3, 12), drawnOf(3, 12));
    for (int i = 0; i < 5; i++) x.set(5, i, 99);
    due("an arab is always steady", x.drawn(3, 12), drawnOf(3, 12));
    for (int i = 0; i < 12; i++) x.reason(bits(9), 8);
    due("twelve reasons", x.drawn(3, 12), 2);
    x = new GroundsReadOut();
    for (int i = 0; i < 5; i++) x.reader(0, 0);
    for (int i = 0; i < 6; i++) x.cup(0, i);
    for (int i = 0; i < 5; i++) x.set(5, i, 9);
    due("none is steady", x.drawn(3, 12), 0);
  }
  /** Five who read nothing, six cups, drunk to 5 .. 10, and 0, 1 said. */
  private static int drawnOf(int seed, int n) {
    int last = seed, all = 3;
    for (int i = 0; i < n; i++) {
      int z = last * 1103515245 + 12345, y = z * 1103515245 + 12345;
      last = y;
      if ((z >>> 9) % 8 < 5 && (y >>> 9) % 8 < 6) all |= 1 << 5 + (y >>> 9) % 8;
    }
    return Integer.bitCount(all);
  }

  private static void promise22() {
    GroundsReadOut x = new GroundsReadOut();
    long no = GroundsReadOut.NO;
    dues("no", no, x.chance(0, 0, 0, 0), x.chance(0, 11, 0, 0), x.chance(0, 1, -1, 0), x.chance(0, 1, 13, 0), x.chance(0, 1, 0, -1),
        x.chance(0, 1, 0, 2), x.chance(0, MIN, MAX, MIN));
    due("never", x.chance(0, 10, 1, 0), 0);
    due("of one", x.chance(0, 10, 1, 1), 1);
    due("always", x.chance(0, 10, 0, 0), 1);
    for (int seed : new int[] {0, -5, 77, MAX - 3, MIN}) {
      x = new GroundsReadOut();
      x.set(0, 0, 3);
      for (int i = 0; i < 5; i++) x.reader(5, 0);
      for (int i = 0; i < 6; i++) x.cup(0, i + 5);
      for (int m = 1; m <= 10; m++) {
        for (int k = 0; k <= 12; k++) {
          int many = 0, g = m;
          for (int i = 0; i < m; i++) if (drawnOf(seed + i, 6) >= k) many++;
          while (many % g != 0 || m % g != 0) g--;
          due("above", x.chance(seed, m, k, 0), many / g);
          due("below", x.chance(seed, m, k, 1), m / g);
        }
      }
    }
  }

  private static void promise23and24() {
    GroundsReadOut x = new GroundsReadOut();
    due("none", x.back(), STATE);
    x.set(0, 0, 9);
    x.set(1, 0, 8);
    x.cup(7, 6);
    x.reason(5, 4);
    x.reader(3, 2);
    x.set(5, 0, 1);
    write(x, "turns 1;misses 0;bounds 0;");
    x.force(1);
    x.sheet(0, 0, 2);
    due("image", x.image(), 1);
    x.set(0, 0, 0);
    x.set(1, 0, 0);
    x.set(2, 0, 0);
    x.set(3, 0, 0);
    x.set(4, 0, 0);
    x.set(5, 0, 0);
    x.cup(1, 1);
    x.unsay();
    x.reason(0, 0);
    x.reason(0, 1);
    x.reader(0, 0);
    x.reader(0, 0);
    x.force(0);
    write(x, "turns 2;misses 0;bounds 0;");
    x.sheet(0, -1, 0);
    x.feed('a');
    for (int again = 0; again < 2; again++) {
      due("back", x.back(), 1);
      due("said", x.told(0, 0), 9);
      due("hour", x.told(0, 1), 8);
      due("grounds", x.told(0, 2), 7);
      due("to", x.told(0, 3), 6);
      due("number", x.told(0, 4), 2);
      due("slips", x.told(0, 5), 1);
      due("kind", x.told(0, 6), 3);
      due("set", x.told(0, 8), 5);
      due("saying", x.told(0, 9), 4);
      due("readers", x.count(0), 1);
      due("cups", x.count(1), 1);
      due("reasons", x.count(2), 1);
      due("the rule", x.count(5), 1);
      due("texts stay", x.count(3), 3);
      due("the tape stays", x.count(4), 1);
      due("sheets stay", x.cell(0, 0, 0), -11);
      x.set(4, 0, 5);
      x.reader(5, 5);
      x.set(2, 0, 12);
    }
    due("a new image", x.image(), 2);
    x.set(4, 1, 0);
    x.reader(4, 4);
    x.set(5, 2, 44);
    due("back", x.back(), 2);
    due("as it was then", x.told(1, 4), 5);
    x.reader(4, 4);
    due("one that comes has no slips", x.told(2, 5), 0);
  }

  private static void promise25() {
    GroundsReadOut x = new GroundsReadOut();
    x.reader(0, 0);
    x.reader(0, 0);
    x.cup(0, 0);
    x.cup(0, 0);
    x.cup(0, 0);
    x.reason(0, 0);
    write(x, "turns 1;misses 0;bounds 0;");
    write(x, "turns 1;misses 0;bounds 0;");
    write(x, "turns 1;misses 0;bounds 0;");
    x.feed(1);
    x.feed(1);
    x.feed(1);
    x.feed(1);
    x.feed(1);
    x.force(3);
    due("readers", x.count(0), 2);
    due("cups", x.count(1), 3);
    due("reasons", x.count(2), 1);
    due("texts", x.count(3), 4);
    due("bytes", x.count(4), 5);
    due("the rule", x.count(5), 3);
    dues("bad", BAD, x.count(-1), x.count(6), x.count(MIN), x.count(MAX));
  }

  private static void promise26() {
    GroundsReadOut x = new GroundsReadOut();
    dues("bad", BAD, x.sheet(-1, 0, 0), x.sheet(4, 0, 0), x.sheet(0, -2, 0), x.sheet(0, 3, 0), x.sheet(0, 0, 41), x.sheet(0, 2, MAX),
        x.sheet(MIN, 0, -1), x.sheet(0, 3, -1));
    dues("below 0", -14, x.sheet(0, 0, -1), x.sheet(0, 1, MIN), x.sheet(3, 2, -1));
    due("nothing came", x.cell(0, 0, 0), -11);
    due("40", x.sheet(0, 2, 40), 1);
    due("the last", x.cell(0, 39, 5), 1);
    due("outside", x.cell(0, 40, 5), -12);
    dues("refused", -14, x.sheet(0, 2, -1));
    due("it is still there", x.cell(0, 39, 5), 1);
    dues("missing, whatever n", 1, x.sheet(0, -1, MIN), x.sheet(0, -1, MAX), x.sheet(1, -1, 41));
    due("missing", x.cell(0, 0, 0), -11);
    x.reader(5, 0);
    x.cup(0, 0);
    x.sheet(0, 2, 1);
    due("all 0", x.tells(0, 0, 0), NONE);
    x.cell(0, 0, 7);
    due("not any more", x.tells(0, 0, 0), 0);
    x.sheet(0, 2, 1);
    due("all 0 again", x.tells(0, 0, 0), NONE);
    due("none of it", x.sheet(0, 1, 0), 1);
    due("outside", x.cell(0, 0, 0), -12);
  }

  private static void promise27() {
    GroundsReadOut x = new GroundsReadOut();
    x.reader(5, 0);
    x.cup(4, 0);
    for (int sort = 0; sort < 3; sort++) {
      x.sheet(sort, sort, 1);
      due("cell", x.cell(sort, 0, 4), 1);
      due("so", x.tells(sort, 0, 0), NONE);
      x.cell(sort, 0, 256 + 4);
      due("of bytes the lowest 8 bits", x.tells(sort, 0, 0), sort == 0 ? NONE : 0);
      x.cell(sort, 0, 65536 + 4);
      due("of shorts the lowest 16", x.tells(sort, 0, 0), sort < 2 ? NONE : 0);
      dues("outside", -12, x.cell(sort, -1, 0), x.cell(sort, 1, 0), x.cell(sort, MIN, 0), x.cell(sort, MAX, 0));
    }
    dues("bad", BAD, x.cell(-1, 0, 0), x.cell(4, 0, 0), x.cell(MIN, -1, 0));
    dues("missing ahead of outside", -11, x.cell(3, -1, 0), x.cell(3, 99, 0));
  }

  private static void promise28() {
    GroundsReadOut x = new GroundsReadOut();
    x.reader(5, 0);
    for (int i = 0; i < 6; i++) x.cup(i == 0 ? 0 : 1 << i, 0);
    x.sheet(0, 2, 6);
    for (int i = 0; i < 5; i++) x.cell(0, i, 1 << i + 1);
    due("upwards, as they were", x.copy(0, 0, 0, 1, 5), 5);
    x.cell(0, 0, 0);
    due("so", x.tells(0, 0, 0), NONE);
    due("downwards", x.copy(0, 1, 0, 0, 5), 5);
    due("and up again", x.copy(0, 0, 0, 1, 5), 5);
    x.cell(0, 0, 0);
    due("so", x.tells(0, 0, 0), NONE);
    x.sheet(1, 2, 3);
    due("to another", x.copy(0, 0, 1, 0, 3), 3);
    due("so", x.tells(1, 0, 0), NONE);
    due("from the middle", x.copy(0, 2, 1, 2, 1), 1);
    due("so still", x.tells(1, 0, 0), NONE);
    due("none", x.copy(0, 6, 1, 3, 0), 0);
    dues("outside", -12, x.copy(0, 0, 1, 0, 4), x.copy(0, 4, 1, 0, 3), x.copy(0, -1, 1, 0, 1), x.copy(0, 0, 1, -1, 1),
        x.copy(0, 0, 1, 0, -1), x.copy(0, 7, 1, 0, 0), x.copy(0, 0, 1, 4, 0), x.copy(0, 1, 1, 0, MAX), x.copy(0, MAX, 1, MAX, MAX),
        x.copy(0, MIN, 1, MIN, MIN));
    due("nothing changed", x.tells(1, 0, 0), NONE);
    x.sheet(2, 1, 3);
    dues("unlike sorts, ahead of outside", -13, x.copy(0, 0, 2, 0, 1), x.copy(2, -1, 0, 0, 1), x.copy(0, 0, 2, 0, -1));
    dues("missing, ahead of it", -11, x.copy(3, 0, 2, 0, 1), x.copy(0, 0, 3, 0, -1), x.copy(3, 0, 3, 0, 0));
    dues("bad", BAD, x.copy(-1, 0, 0, 0, 0), x.copy(4, 0, 0, 0, 0), x.copy(0, 0, -1, 0, 0), x.copy(0, 0, 4, 0, 0), x.copy(3, 0, 4, 0, 0));
  }

  private static void promise29() {
    GroundsReadOut x = new GroundsReadOut();
    int[] row = {5, 1, 4, 2, -1, 3, 3, 10, 2, 4, 1, 5, 0, 6, 0, 7};
    x.sheet(0, 0, row.length);
    for (int i = 0; i < row.length; i++) x.cell(0, i, row[i]);
    dues("bad", BAD, x.house(-1, 0, 0, 0), x.house(4, 0, 0, 0), x.house(0, -1, 0, 0), x.house(0, 3, 0, 0), x.house(0, 0, 0, -1),
        x.house(0, 0, 0, 6), x.house(1, -1, 0, 0), x.house(1, 0, 0, 6));
    dues("another sort", -13, x.house(0, 1, 0, 0), x.house(0, 2, -1, 5));
    dues("missing", -11, x.house(1, 0, 0, 0), x.house(1, 2, -5, 5));
    dues("outside", -12, x.house(0, 0, -1, 1), x.house(0, 0, 16, 1), x.house(0, 0, 15, 1), x.house(0, 0, MAX, 5), x.house(0, 0, MIN, 5));
    due("nobody yet", x.count(0), 0);
    dues("none are asked", 0, x.house(0, 0, 0, 0), x.house(0, 0, 99, 0), x.house(0, 0, -1, 0));
    due("two are left out", x.house(0, 0, 0, 5), 3);
    due("kind", x.told(0, 6), 5);
    due("number", x.told(0, 4), 1);
    due("kind", x.told(2, 6), 2);
    due("number", x.told(2, 4), 4);
    due("what stood ahead came", x.house(0, 0, 13, 3), -12);
    due("6, 0 is left out", x.count(0), 3);
    due("what stood ahead came", x.house(0, 0, 12, 3), -12);
    due("both", x.count(0), 5);
    due("number", x.told(4, 4), 7);
    due("all are left out", x.house(0, 0, 0, 5), 0);
    due("outside though there is no room", x.house(0, 0, 14, 2), -12);
  }

  private static void promise30() {
    GroundsReadOut x = new GroundsReadOut();
    dues("none such", -11, x.taken(0, 0), x.taken(-1, 5), x.taken(MAX, 3), x.taken(MIN, 3));
    dues("bad ahead of it", BAD, x.taken(0, -1), x.taken(0, 6), x.taken(MIN, MAX));
    int[][] under = {{0}, {0, 1}, {0, 2}, {0, 1, 3}, {0, 2, 4}, {0, 5}};
    for (int kind = 0; kind < 6; kind++) {
      x = new GroundsReadOut();
      x.reader(kind, 7);
      for (int k = 0; k < 6; k++) {
        boolean so = false;
        for (int u : under[kind]) so |= u == k;
        due("kind " + kind + " taken for " + k, x.taken(0, k), so ? 7 : -13);
      }
      due("none such", x.taken(1, kind), -11);
      due("bad", x.taken(0, 6), BAD);
    }
  }

  public static void main(String[] args) {
    promise1();
    promise2();
    promise3();
    promise4();
    promise5();
    promise6();
    promise7();
    promise8();
    promise9();
    promise10();
    promise11();
    promise12();
    promise13();
    promise14();
    promise15();
    promise16();
    promise17();
    promise18();
    promise19();
    promise20();
    promise21();
    promise22();
    promise23and24();
    promise25();
    promise26();
    promise27();
    promise28();
    promise29();
    promise30();
    System.out.println(looked + " answers looked at, " + wrong + " not as due");
    if (wrong != 0) System.exit(1);
  }
}
