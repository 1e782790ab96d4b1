/** Terms, ==== 1: each sentence on the small machine, at the edges that it names. */
public final class LoopTellsMachineEdges extends Check {
  /** Open and secret input with which the registers begin as 1, 2, 3 and 0. */
  private static final int OPEN = 9;

  private static final int SECRET = 3;
  private static final int[] BEGINNING = {1, 2, 3, 0};

  private static final int[] NUMBERS = {
    0, 1, 2, 7, 8, 15, 16, 255, 256, 65536, GREATEST - 7, GREATEST, LEAST, LEAST + 1, -8, -7, -2, -1
  };

  private static void upToEightPlaces() {
    says("A PROGRAM has up to 8 PLACES 0, 1, ..");
    LoopTells x = new LoopTells();
    due("steps of no places", x.run(4, 0, 2), 0);
    for (int p = 0; p < 8; p++) {
      due("place", x.order(add(0, 1)), p);
      due("steps", x.run(4, 0, 2), p + 1);
      due("answer", x.run(4, 0, 0), p + 1);
    }
    due("a ninth", x.order(add(0, 1)), -1);
    due("steps of eight", x.run(4, 0, 2), 8);
  }

  private static void everyOrder() {
    says("each an ORDER: 4096 times its KIND (0 .. 9), 256 times a, 16 times b, and c (each 0 .. 15)");
    for (int from = 0; from < 40960; from += 160) {
      LoopTells x = with(end());
      for (int v = from; v < from + 160; v++) {
        due("change to " + v, x.change(0, v), true);
        due("look at " + v, x.look(10), v);
      }
    }
  }

  private static void noOtherOrder() {
    says("its KIND (0 .. 9)");
    for (int kind = 10; kind < 16; kind++) {
      LoopTells x = with(number(0, 3));
      for (int low : new int[] {0, 1, 255, 4095}) {
        due("order of kind " + kind, x.order(4096 * kind + low), -1);
        due("change to kind " + kind, x.change(0, 4096 * kind + low), false);
      }
      due("the order stays", x.look(10), number(0, 3));
    }
  }

  private static void registersAtFirst() {
    says("as it begins 0 and 1 have the OPEN inputs, 2 and 3 the SECRET ones (0 .. 3 each)");
    for (int register = 0; register < 4; register++) {
      LoopTells x = register == 0 ? with(end()) : with(number(0, 0), add(0, register));
      for (int input = 0; input < 256; input++) {
        int open = input % 16;
        int secret = input / 16;
        int[] want = {open % 4, open / 4, secret % 4, secret / 4};
        due("register " + register, x.run(open, secret, 0), want[register]);
      }
    }
  }

  private static void memoryAtFirst() {
    says("MEMORY has 8 words (as told; at first 0)");
    for (int word = 0; word < 8; word++) {
      LoopTells x = with(number(1, word), load(0, 1));
      due("word at first", x.run(3, 0, 0), 0);
      for (int number : NUMBERS) {
        x.word(word, number);
        due("word as told", x.run(3, 0, 0), number);
      }
    }
    LoopTells x = with(number(1, 5), load(0, 1), add(0, 1), store(0, 1));
    for (int i = 0; i < 3; i++) {
      due("what a run stores is gone", x.run(0, 0, 0), 5);
    }
    due("and the word is as told", x.look(55), 0);
  }

  /** Register r as an order ends that began with 1, 2, 3 and 0; words are 10, 11, .. */
  private static int after(int kind, int a, int b, int c, int r) {
    int[] now = BEGINNING.clone();
    int to = a % 4;
    int of = b % 4;
    switch (kind) {
      case 1:
        now[to] = c;
        break;
      case 2:
        now[to] += now[of];
        break;
      case 3:
        now[to] ^= now[of];
        break;
      case 4:
        now[to] *= now[of];
        break;
      case 5:
        now[to] = 10 + now[of];
        break;
      case 9:
        now[to] += now[of] != 0 ? c : 0;
        break;
      default:
        break;
    }
    return now[r];
  }

  private static void registersModuloFour() {
    says("A register is a, b modulo 4; c is a number.");
    for (int v = 0; v < 40960; v += 16) {
      int kind = v / 4096;
      int a = v / 256 % 16;
      int b = v / 16 % 16;
      if (kind == 0 || kind == 7 || kind == 8) {
        continue;
      }
      for (int r = 0; r < 4; r++) {
        LoopTells x = with(v + 9);
        if (r > 0) {
          x.order(number(0, 0));
          x.order(add(0, r));
        }
        words(x, 10, 11, 12, 13);
        due("register " + r + " after " + (v + 9), x.run(OPEN, SECRET, 0), after(kind, a, b, 9, r));
      }
    }
    for (int a = 0; a < 16; a++) {
      for (int b = 0; b < 16; b++) {
        LoopTells x = with(order(6, a, b, 15), load(0, b % 4));
        due("stored of " + a, x.run(OPEN, SECRET, 0), BEGINNING[a % 4]);
        due("line of " + b, x.seen(OPEN, SECRET, 0, 2), BEGINNING[b % 4]);
        LoopTells y = with(order(7, a, b, 2), end(), end(), number(0, 9));
        due("branch on " + a, y.run(OPEN, SECRET, 2), 2);
        due("branch on " + a + " is seen", y.seen(OPEN, SECRET, 0, 2), a % 4 == 3 ? 1 : 0);
        due("jump with " + a, with(order(8, a, b, 3), end(), end(), number(0, 9)).run(OPEN, SECRET, 0), 9);
      }
    }
    for (int c = 0; c < 16; c++) {
      due("a gets " + c, with(number(0, c)).run(3, 0, 0), c);
      due("a gets " + c + " more", with(addIf(0, 0, c)).run(3, 0, 0), 3 + c);
    }
  }

  private static void itEnds() {
    says("0 it ENDS.");
    for (int low = 0; low < 4096; low += 273) {
      LoopTells x = with(number(0, 9), low, number(0, 5));
      due("answer", x.run(0, 0, 0), 9);
      due("steps", x.run(0, 0, 2), 2);
      due("spent", x.run(0, 0, 3), 0);
    }
  }

  private static void wordsByTheLowBits() {
    says("5 a gets MEMORY word (b and 7). 6 that word gets a.");
    for (int b : NUMBERS) {
      int word = Math.floorMod(b, 8);
      int[] words = {b, 101, 102, 103, 104, 105, 106, 107};
      LoopTells x = words(with(load(1, 3), load(0, 1)), words);
      due("loaded at " + b, x.run(0, 0, 0), words[word]);
      due("line of " + b, x.seen(0, 0, 1, 2), word);
      for (int i = 0; i < 8; i++) {
        LoopTells y = with(load(1, 3), number(0, 9), store(0, 1), number(2, i), load(0, 2));
        words(y, words);
        due("word " + i + " after a store at " + b, y.run(0, 0, 0), i == word ? 9 : words[i]);
        due("line of a store at " + b, y.seen(0, 0, 1, 2), word);
      }
    }
  }

  private static void branches() {
    says("7 if a is 0, it goes on at PLACE c.");
    for (int a : NUMBERS) {
      LoopTells x = words(with(load(2, 1), branch(2, 3), number(0, 5)), a);
      due("answer with " + a, x.run(0, 0, 0), a == 0 ? 0 : 5);
      due("seen with " + a, x.seen(0, 0, 1, 2), a == 0 ? 1 : 0);
    }
    for (int places = 1; places <= 8; places++) {
      for (int c = 0; c < 16; c++) {
        LoopTells x = with(branch(2, c));
        for (int p = 1; p < places; p++) {
          x.order(add(0, 1));
        }
        goesOnAt("branch to " + c + " of " + places, x, 4, places, c);
        due("it does not go to " + c, x.run(4, 1, 2), places);
        due("nor is so seen", x.seen(4, 1, 0, 2), 0);
        due("it goes to " + c, x.seen(4, 0, 0, 2), 1);
      }
    }
  }

  private static void jumps() {
    says("8 it goes on at PLACE c.");
    for (int places = 1; places <= 8; places++) {
      for (int c = 0; c < 16; c++) {
        LoopTells x = with(jump(c));
        for (int p = 1; p < places; p++) {
          x.order(add(0, 1));
        }
        goesOnAt("jump to " + c + " of " + places, x, 4, places, c);
      }
    }
  }

  /** From place 0 to place c, and to the end of places that each add 1; or ever on at place 0. */
  private static void goesOnAt(String name, LoopTells x, int open, int places, int c) {
    int left = Math.max(0, places - c);
    due(name + ": steps", x.run(open, 0, 2), c == 0 ? 40 : 1 + left);
    due(name + ": answer", x.run(open, 0, 0), c == 0 ? 0 : left);
    due(name + ": spent", x.run(open, 0, 3), c == 0 ? 1 : 0);
  }

  private static void addsIfNotZero() {
    says("9 if b is not 0, a gets c more.");
    for (int b : NUMBERS) {
      LoopTells x = words(with(load(2, 1), addIf(0, 2, 11)), b);
      due("with " + b, x.run(3, 0, 0), b == 0 ? 3 : 14);
    }
  }

  private static void oneRegisterTwice() {
    says("A register is a, b");
    due("gets itself more", with(add(0, 0)).run(3, 0, 0), 6);
    due("xor itself", with(xor(0, 0)).run(3, 0, 0), 0);
    due("times itself", with(times(0, 0)).run(3, 0, 0), 9);
    due("the word at itself", words(with(load(0, 0)), 7, 8, 9, 10).run(3, 0, 0), 10);
    due("itself to its word", with(store(2, 2), load(0, 2)).run(0, 3, 0), 3);
    due("more, as it is not 0", with(addIf(0, 0, 5)).run(3, 0, 0), 8);
    due("no more, as it is 0", with(addIf(0, 0, 5)).run(0, 0, 0), 0);
  }

  private static void endsWherePlacesEnd() {
    says("It begins at PLACE 0, and goes on at the next PLACE; at a PLACE that there is not it ENDS.");
    LoopTells none = new LoopTells();
    due("no places: answer", none.run(3, 15, 0), 3);
    due("no places: cost", none.run(3, 15, 1), 0);
    due("no places: steps", none.run(3, 15, 2), 0);
    due("no places: spent", none.run(3, 15, 3), 0);
    for (int kind = 1; kind < 10; kind++) {
      if (kind != 7 && kind != 8) {
        LoopTells x = with(order(kind, 1, 1, 0), order(kind, 1, 1, 0));
        due("kind " + kind + " goes on at the next", x.run(0, 0, 2), 2);
        due("kind " + kind + " is not spent", x.run(0, 0, 3), 0);
      }
    }
  }

  private static void spentIs(String name, LoopTells x, int steps, int spent, int answer) {
    due(name + ": steps", x.run(0, 0, 2), steps);
    due(name + ": spent", x.run(0, 0, 3), spent);
    due(name + ": answer", x.run(0, 0, 0), answer);
    due(name + ": cost", x.run(0, 0, 1), steps);
    due(name + ": as seen", x.seen(0, 0, x.run(0, 0, 4) - 2, 2), 2 * steps + spent);
  }

  private static void fortySteps() {
    says("If 40 STEPS (ORDERS that were done, that which ENDS it, too) were done, and it is at a PLACE still");
    spentIs("39, then no place", fortiethAtFive(), 39, 0, 0);
    spentIs("the fortieth ends it", fortiethAtFive(end()), 40, 0, 0);
    spentIs("the fortieth ends it before a place", fortiethAtFive(end(), end()), 40, 0, 0);
    spentIs("40, then no place", fortiethAtFive(number(0, 7)), 40, 0, 7);
    spentIs("the fortieth jumps to no place", fortiethAtFive(jump(15), end()), 40, 0, 0);
    spentIs("the fortieth branches to no place", fortiethAtFive(branch(2, 7), end()), 40, 0, 0);
    spentIs("40, then an end", fortiethAtFive(number(0, 7), end()), 40, 1, 7);
    spentIs("40, then itself", fortiethAtFive(branch(2, 5)), 40, 1, 0);
    spentIs("40, then place 0", fortiethAtFive(jump(0)), 40, 1, 0);
    spentIs("far more than 40", with(jump(0)), 40, 1, 0);
  }

  private static void answerAtTheEnd() {
    says("The ANSWER is register 0 as it ENDS (as it is SPENT).");
    spentIs("what is not done is not in it", fortiethAtFive(number(0, 7), number(0, 8)), 40, 1, 7);
    due("twenty times more", with(add(0, 1), jump(0)).run(5, 0, 0), 21);
    due("other registers are not in it", with(number(1, 9), number(2, 9), number(3, 9)).run(2, 0, 0), 2);
  }

  private static void wraps(String name, int got, int a, int b) {
    due(name + " of " + a + " and " + b, got, wrapped(name, a, b));
  }

  private static int wrapped(String name, int a, int b) {
    long exact = name.equals("times") ? (long) a * b : name.equals("more") ? (long) a + b : a ^ b;
    return (int) (exact & 0xffffffffL);
  }

  private static void intsWrap() {
    says("Ints wrap.");
    for (int a : NUMBERS) {
      for (int b : NUMBERS) {
        int[] two = {a, b};
        LoopTells more = words(with(number(2, 1), load(1, 2), load(0, 3), add(0, 1)), two);
        LoopTells times = words(with(number(2, 1), load(1, 2), load(0, 3), times(0, 1)), two);
        LoopTells other = words(with(number(2, 1), load(1, 2), load(0, 3), xor(0, 1)), two);
        wraps("more", more.run(0, 0, 0), a, b);
        wraps("times", times.run(0, 0, 0), a, b);
        wraps("xor", other.run(0, 0, 0), a, b);
      }
      LoopTells some = words(with(load(0, 3), number(1, 1), addIf(0, 1, 15)), a);
      wraps("more", some.run(0, 0, 0), a, 15);
    }
  }

  private static void costs() {
    says("COST of a STEP: 1; of KIND 4: 1 and how many bits of b's number (as of an int without sign)");
    for (int kind = 0; kind < 10; kind++) {
      if (kind != 4) {
        due("cost of kind " + kind, with(order(kind, 3, 3, 15)).run(15, 15, 1), 1);
      }
    }
    due("times 0", with(times(0, 1)).run(3, 15, 1), 1);
    LoopTells x = with(load(1, 3), times(0, 1));
    LoopTells y = with(load(1, 3), times(0, 1));
    for (int bit = 0; bit < 32; bit++) {
      x.word(0, 1 << bit);
      due("times bit " + bit + " alone", x.run(0, 0, 1), 1 + 1 + bit + 1);
      y.word(0, -1 >>> 31 - bit);
      due("times all bits up to " + bit, y.run(0, 0, 1), 1 + 1 + bit + 1);
    }
    due("a's number does not cost", words(with(load(0, 1), times(0, 1)), -1).run(0, 0, 1), 2);
    due("b's number as the step begins", with(times(2, 2)).run(0, 3, 1), 3);
    due("the most", words(with(load(1, 3), times(0, 1), jump(1)), -1).run(0, 0, 1), 1 + 20 * 33 + 19);
  }

  public static void main(String[] args) {
    upToEightPlaces();
    everyOrder();
    noOtherOrder();
    registersAtFirst();
    memoryAtFirst();
    registersModuloFour();
    itEnds();
    wordsByTheLowBits();
    branches();
    jumps();
    addsIfNotZero();
    oneRegisterTwice();
    endsWherePlacesEnd();
    fortySteps();
    answerAtTheEnd();
    intsWrap();
    costs();
    close();
  }
}
