/** What the tests of the project share: orders by their names, and the answers that are not as due. */
abstract class Check {
  static final int NO = -1001;
  static final int LEAST = Integer.MIN_VALUE;
  static final int GREATEST = Integer.MAX_VALUE;
  /** Numbers that are no input, no eyes, no place and no question. */
  static final int[] FAR = {LEAST, -1001, -16, -1, 16, 17, 256, GREATEST};

  private static int compared = 0;
  private static int wrong = 0;
  private static String sentence = "";

  /** The sentence of the document that the next answers are held against. */
  static void says(String text) {
    sentence = text;
  }

  static void due(String what, long got, long want) {
    compared++;
    if (got != want) {
      wrong++;
      String named = sentence.isEmpty() ? what : "\"" + sentence + "\": " + what;
      System.out.println(named + " answered " + got + ", due is " + want);
    }
  }

  static void due(String what, boolean got, boolean want) {
    due(what, got ? 1 : 0, want ? 1 : 0);
  }

  static void close() {
    System.out.println(compared + " answers compared, " + wrong + " are not as due");
    if (wrong != 0) {
      System.exit(1);
    }
  }

  static int order(int kind, int a, int b, int c) {
    return 4096 * kind + 256 * a + 16 * b + c;
  }

  static int end() {
    return 0;
  }

  static int number(int a, int c) {
    return order(1, a, 0, c);
  }

  static int add(int a, int b) {
    return order(2, a, b, 0);
  }

  static int xor(int a, int b) {
    return order(3, a, b, 0);
  }

  static int times(int a, int b) {
    return order(4, a, b, 0);
  }

  static int load(int a, int b) {
    return order(5, a, b, 0);
  }

  static int store(int a, int b) {
    return order(6, a, b, 0);
  }

  static int branch(int a, int c) {
    return order(7, a, 0, c);
  }

  static int jump(int c) {
    return order(8, 0, 0, c);
  }

  static int addIf(int a, int b, int c) {
    return order(9, a, b, c);
  }

  static LoopTells with(int... orders) {
    LoopTells x = new LoopTells();
    for (int v : orders) {
      x.order(v);
    }
    return x;
  }

  static LoopTells words(LoopTells x, int... numbers) {
    for (int i = 0; i < numbers.length; i++) {
      x.word(i, numbers[i]);
    }
    return x;
  }

  static LoopTells watched(LoopTells x, int eyes, int width) {
    x.watch(eyes, width);
    return x;
  }

  /** With open input 0 the fortieth step is done at place 5, where the tail begins. */
  static LoopTells fortiethAtFive(int... tail) {
    LoopTells x = with(load(3, 1), number(2, 12), branch(2, 5), add(2, 3), jump(2));
    for (int v : tail) {
      x.order(v);
    }
    return words(x, -1);
  }

  /** 40 steps with a cost of 40 for all secrets, but spent if register 2 is not 0. */
  static LoopTells spentAlone() {
    LoopTells x =
        with(load(1, 1), number(3, 12), branch(3, 5), add(3, 1), jump(2), branch(2, 15), end());
    return watched(words(x, -1, -1, -1, -1), 1, 1);
  }

  /** One line, the same for all secrets, but at place 3 if register 2 is 0, else at place 1. */
  static LoopTells sameLineElsewhere() {
    return watched(with(branch(2, 3), load(0, 1), end(), load(0, 1)), 2, 1);
  }

  /** The answer is register 2 for one open input, 0 for the others; nothing else is seen. */
  static LoopTells tellsAtOpen(int open) {
    LoopTells x = with(load(0, 0), number(3, 4), add(1, 3), load(1, 1), times(0, 1), times(0, 2));
    x.word(open % 4, 1);
    x.word(4 + open / 4, 1);
    return watched(x, 8, 1);
  }

  /** The answer is 1 for one secret, 0 for the others; nothing else is seen. */
  static LoopTells tellsSecret(int secret) {
    LoopTells x =
        with(load(2, 2), number(0, 4), add(3, 0), load(3, 3), times(2, 3), number(0, 0), add(0, 2));
    x.word(secret % 4, 1);
    x.word(4 + secret / 4, 1);
    return watched(x, 8, 1);
  }

  /** At place 6 the line is register 2 for one open input, 0 for the others; no other line tells. */
  static LoopTells lineAtOpen(int open) {
    LoopTells x =
        with(load(0, 0), number(3, 4), add(1, 3), load(1, 1), times(0, 1), times(2, 0), load(1, 2));
    x.word(open % 4, 1);
    x.word(4 + open / 4, 1);
    return watched(x, 2, 1);
  }

  /** Costs that are the same with place 6 even, or with 1 and 2, or with 1, 2, 4 and 6. */
  static LoopTells twoWays() {
    LoopTells x =
        with(load(3, 2), times(1, 3), times(1, 3), load(3, 3), times(1, 3), load(3, 3), times(1, 3));
    return watched(words(x, 4, 13, 13, 13, 30, 7, 0, 2), 9, 1);
  }

  static void pairIs(String name, LoopTells x, int... want) {
    for (int what = 0; what < 5; what++) {
      due(name + ": pair " + what, x.pair(what), want[what]);
    }
  }

  static void cureIs(String name, LoopTells x, int price, int set, int many) {
    due(name + ": price", x.cure(0), price);
    due(name + ": set", x.cure(1), set);
    due(name + ": how many", x.cure(2), many);
  }

  /** The row of a run as the watcher sees it: place, what and number of each thing. */
  static void rowIs(String name, LoopTells x, int open, int secret, int[]... want) {
    due(name + ": things", x.run(open, secret, 4), want.length);
    for (int i = 0; i < want.length; i++) {
      for (int what = 0; what < 3; what++) {
        due(name + ": thing " + i + " what " + what, x.seen(open, secret, i, what), want[i][what]);
      }
    }
    due(name + ": no thing behind", x.seen(open, secret, want.length, 0), NO);
  }
}
