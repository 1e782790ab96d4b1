/** Each promise of the document by itself: ordinary inputs, edges, wrong inputs. */
public final class LoopTellsPromises extends Check {
  private static void promise1NewObject() {
    LoopTells x = new LoopTells();
    due("1 places", x.look(0), 0);
    due("1 eyes", x.look(1), 15);
    due("1 width", x.look(2), 1);
    due("1 even", x.look(3), 0);
    for (int i = 0; i < 8; i++) {
      due("1 word", x.look(50 + i), 0);
    }
    LoopTells other = with(load(0, 1));
    other.word(0, 5);
    due("1 objects share nothing", x.look(50) + x.look(0), 0);
  }

  private static void promise2Order() {
    LoopTells x = new LoopTells();
    due("2 least", x.order(0), 0);
    due("2 highest", x.order(40959), 1);
    due("2 kind 10", x.order(40960), -1);
    due("2 bits above", x.order(65536), -1);
    due("2 bits above a good kind", x.order(65536 + 4096), -1);
    due("2 negative", x.order(-1), -1);
    due("2 least int", x.order(Integer.MIN_VALUE), -1);
    due("2 greatest int", x.order(Integer.MAX_VALUE), -1);
    due("2 nothing was done", x.look(0), 2);
    for (int p = 2; p < 8; p++) {
      due("2 place", x.order(number(0, p)), p);
    }
    due("2 a ninth", x.order(0), -1);
    due("2 still eight", x.look(0), 8);
    due("2 the last one stays", x.look(17), number(0, 7));

    LoopTells y = with(branch(2, 1));
    y.watch(8, 1);
    due("2 before", y.silent() && y.reached() == 1 && y.cure(2) == 2, true);
    y.order(add(0, 2));
    due("2 what was known is forgotten", y.silent(), false);
    due("2 and what was reached", y.reached(), 3);
    due("2 and the cures", y.cure(2), 4);
  }

  private static void promise3Change() {
    LoopTells x = with(number(0, 1), number(0, 2));
    x.price(1, 7);
    x.even(1, true);
    due("3 change", x.change(1, number(0, 9)), true);
    due("3 the order", x.look(11), number(0, 9));
    due("3 the other", x.look(10), number(0, 1));
    due("3 the run", x.run(0, 0, 0), 9);
    due("3 the price stays", x.look(31), 7);
    due("3 it stays even", x.look(3), 2);
    due("3 the same order", x.change(1, number(0, 9)), true);
    due("3 kind 10", x.change(1, 40960), false);
    due("3 negative", x.change(1, -1), false);
    due("3 no such place", x.change(2, 0), false);
    due("3 negative place", x.change(-1, 0), false);
    due("3 far places", x.change(Integer.MAX_VALUE, 0) || x.change(Integer.MIN_VALUE, 0), false);
    due("3 nothing was done", x.look(11), number(0, 9));
    due("3 no new place", x.look(0), 2);
    due("3 silent before", x.silent(), true);
    x.change(1, add(0, 2));
    due("3 what was known is forgotten", x.silent(), false);
  }

  private static void promise4Clear() {
    LoopTells x = with(times(0, 2), load(0, 3));
    x.word(3, 44);
    x.watch(3, 2);
    x.even(0, true);
    x.price(0, 50);
    x.price(1, 60);
    due("4 before", x.silent(), false);
    x.clear();
    due("4 places", x.look(0), 0);
    due("4 even", x.look(3), 0);
    due("4 no order", x.look(10), NO);
    due("4 no price", x.look(30), NO);
    due("4 eyes stay", x.look(1), 3);
    due("4 width stays", x.look(2), 2);
    due("4 memory stays", x.look(53), 44);
    due("4 silent", x.silent(), true);
    due("4 reached", x.reached(), 0);
    due("4 cures", x.cure(2), 1);
    due("4 a place again", x.order(times(0, 2)), 0);
    due("4 its price is 1", x.look(30), 1);
    due("4 a second", x.order(end()), 1);
    due("4 its price, too", x.look(31), 1);
    x.clear();
    x.clear();
    due("4 twice", x.look(0), 0);
  }

  private static void promise5Word() {
    LoopTells x = with(load(0, 1), end());
    due("5 word 0", x.word(0, Integer.MIN_VALUE), true);
    due("5 word 3", x.word(3, -1001), true);
    due("5 word 7", x.word(7, 70), true);
    due("5 word 8", x.word(8, 1), false);
    due("5 word -1", x.word(-1, 1), false);
    due("5 far", x.word(Integer.MIN_VALUE, 1) || x.word(Integer.MAX_VALUE, 1), false);
    due("5 looked at", x.look(50), Integer.MIN_VALUE);
    due("5 looked at 3", x.look(53), -1001);
    due("5 loaded", x.run(0, 0, 0), Integer.MIN_VALUE);
    due("5 loaded 3", x.run(12, 0, 0), -1001);

    LoopTells y = with(load(0, 2));
    y.watch(8, 1);
    due("5 silent at first", y.silent(), true);
    y.word(1, 9);
    due("5 what was known is forgotten", y.silent(), false);

    LoopTells z = with(load(0, 1), add(0, 0), number(1, 5), add(0, 1), number(1, 0), store(0, 1));
    due("5 a run stores", z.run(0, 0, 0), 5);
    due("5 but the next begins anew", z.run(0, 0, 0), 5);
    due("5 and the word stays", z.look(50), 0);
  }

  private static void promise6Watch() {
    LoopTells x = with(load(0, 2));
    for (int width = -1; width <= 16; width++) {
      boolean can = width == 1 || width == 2 || width == 4 || width == 8;
      due("6 width " + width, x.watch(5, width), can);
    }
    for (int eyes = 0; eyes < 16; eyes++) {
      due("6 eyes " + eyes, x.watch(eyes, 2), true);
      due("6 eyes are " + eyes, x.look(1), eyes);
    }
    x.watch(9, 4);
    for (int eyes : FAR) {
      due("6 eyes " + eyes, x.watch(eyes, 1), false);
    }
    due("6 far widths", x.watch(1, Integer.MIN_VALUE) || x.watch(1, Integer.MAX_VALUE), false);
    due("6 nothing was done", x.look(1) * 10 + x.look(2), 94);

    x.watch(2, 1);
    due("6 width 1", x.classes(0), 4);
    x.watch(2, 2);
    due("6 width 2", x.classes(0), 2);
    x.watch(2, 4);
    due("6 width 4", x.classes(0), 1);
    x.watch(0, 1);
    due("6 no eyes see nothing", x.run(0, 3, 4), 0);
    due("6 and are silent", x.silent(), true);
  }

  private static void promise7Even() {
    LoopTells x = with(times(0, 2), load(0, 1), branch(0, 3));
    due("7 not even yet", x.even(0, false), false);
    due("7 made even", x.even(0, true), true);
    due("7 it was so", x.even(0, true), false);
    due("7 last one", x.even(2, true), true);
    due("7 none such", x.even(3, true), false);
    due("7 none such", x.even(3, false), false);
    due("7 negative", x.even(-1, true), false);
    due("7 far", x.even(32, true) || x.even(Integer.MAX_VALUE, true), false);
    due("7 far false", x.even(-32, false) || x.even(Integer.MIN_VALUE, false), false);
    due("7 the set", x.look(3), 5);
    due("7 cost of times", x.run(0, 3, 1), 35);
    due("7 only the line is seen", x.run(0, 3, 4), 3);
    due("7 the line", x.seen(0, 3, 0, 0), 1);
    due("7 back", x.even(0, false), true);
    due("7 cost again", x.run(0, 3, 1), 5);
    due("7 the set again", x.look(3), 4);
    x.even(1, true);
    due("7 no line is seen", x.run(0, 3, 4), 2);
    LoopTells round = with(times(0, 2), jump(0));
    round.even(0, true);
    round.even(1, true);
    due("7 each step costs so", round.run(0, 0, 1), 20 * 33 + 20);
  }

  private static void promise8Price() {
    LoopTells x = with(end(), end());
    due("8 at first", x.look(31), 1);
    due("8 0", x.price(1, 0), true);
    due("8 is 0", x.look(31), 0);
    due("8 99", x.price(1, 99), true);
    due("8 100", x.price(1, 100), false);
    due("8 -1", x.price(1, -1), false);
    due("8 far", x.price(1, Integer.MIN_VALUE) || x.price(1, Integer.MAX_VALUE), false);
    due("8 the same", x.price(1, 99), true);
    due("8 is 99", x.look(31), 99);
    due("8 no such place", x.price(2, 1), false);
    due("8 negative place", x.price(-1, 1), false);
    due("8 far place", x.price(Integer.MAX_VALUE, 1) || x.price(Integer.MIN_VALUE, 1), false);
    due("8 the other", x.look(30), 1);
  }

  private static void promise9Look() {
    LoopTells x = with(number(1, 3), end());
    x.price(0, 12);
    x.word(0, 77);
    for (int what = -20; what < 80; what++) {
      int want = NO;
      if (what >= 50 && what < 58) {
        want = what == 50 ? 77 : 0;
      }
      want = what == 0 || what == 3 ? (what == 0 ? 2 : 0) : want;
      want = what == 1 ? 15 : what == 2 ? 1 : want;
      want = what == 10 ? number(1, 3) : what == 11 ? 0 : want;
      want = what == 30 ? 12 : what == 31 ? 1 : want;
      due("9 look " + what, x.look(what), want);
    }
    due("9 far", x.look(Integer.MAX_VALUE), NO);
    due("9 far", x.look(Integer.MIN_VALUE), NO);
    LoopTells full = with(1, 2, 3, 4, 5, 6, 7, 8);
    due("9 the eighth", full.look(17), 8);
    due("9 no ninth", full.look(18), NO);
    due("9 the eighth price", full.look(37), 1);
    due("9 no ninth price", full.look(38), NO);
  }

  private static void promise10RunKinds() {
    // open 9 is 1 and 2, secret 14 is 2 and 3
    due("10 registers 0", with().run(9, 14, 0), 1);
    due("10 register 1", with(add(0, 1)).run(9, 14, 0), 3);
    due("10 register 2", with(add(0, 2)).run(9, 14, 0), 3);
    due("10 register 3", with(add(0, 3)).run(9, 14, 0), 4);
    due("10 number", with(number(0, 15)).run(9, 14, 0), 15);
    due("10 a is modulo 4", with(number(12, 7)).run(9, 14, 0), 7);
    due("10 b is modulo 4", with(add(8, 15)).run(9, 14, 0), 4);
    due("10 to itself", with(add(0, 0)).run(3, 0, 0), 6);
    due("10 xor", with(order(3, 0, 3, 0)).run(9, 14, 0), 2);
    due("10 times", with(add(0, 1), times(0, 3)).run(9, 14, 0), 9);
    due("10 add if", with(order(9, 0, 1, 11)).run(9, 14, 0), 12);
    due("10 add if not", with(order(9, 0, 1, 11)).run(1, 14, 0), 1);
    due("10 end", with(end(), number(0, 5)).run(9, 14, 0), 1);
    due("10 branch goes", with(branch(0, 2), number(0, 5)).run(0, 0, 0), 0);
    due("10 branch stays", with(branch(0, 2), number(0, 5)).run(1, 0, 0), 5);
    due("10 jump", with(jump(2), number(0, 5), add(0, 0)).run(1, 0, 0), 2);
    due("10 store, then load", with(store(0, 3), load(2, 3), add(0, 2)).run(3, 5, 0), 6);
    LoopTells high = with(number(3, 13), store(0, 3), number(1, 1), load(0, 1));
    high.word(1, 11);
    due("10 word 5 is not word 1", high.run(3, 5, 0), 11);
    due("10 its line", high.seen(3, 5, 0, 2), 5);
    LoopTells wrap = with(load(0, 1), add(0, 0));
    wrap.word(0, Integer.MIN_VALUE);
    due("10 ints wrap", wrap.run(0, 0, 0), 0);
    LoopTells low = with(load(1, 3), load(0, 1));
    low.word(0, -3);
    low.word(5, 55);
    due("10 the low bits of a negative number tell the word", low.run(0, 0, 0), 55);
  }

  private static void promise10RunCosts() {
    LoopTells x = with(load(1, 1), times(0, 1));
    int[] numbers = {0, 1, 2, 3, 4, 255, 256, Integer.MAX_VALUE, Integer.MIN_VALUE, -1};
    int[] bits = {0, 1, 2, 2, 3, 8, 9, 31, 32, 32};
    for (int i = 0; i < numbers.length; i++) {
      x.word(0, numbers[i]);
      due("10 cost of times " + numbers[i], x.run(3, 0, 1), 2 + bits[i]);
    }
    due("10 b's number as the step begins", with(times(0, 0)).run(3, 0, 1), 3);
    due("10 a's number costs nothing", with(times(0, 1)).run(3, 0, 1), 1);
    due("10 end costs 1", with(end()).run(0, 0, 1), 1);
    due("10 end is a step", with(end()).run(0, 0, 2), 1);
    due("10 beyond the last place is none", with(jump(1)).run(0, 0, 2), 1);
    due("10 place 15 is none", with(jump(15), end()).run(0, 0, 2), 1);
  }

  /** 4 + 3 * rounds steps until place 6 is come to, if it has no more to do before. */
  private static LoopTells counting(int rounds, int... tail) {
    LoopTells x = with(number(1, 0), load(3, 1), number(2, rounds), branch(2, 6), add(2, 3), jump(3));
    x.word(0, -1);
    for (int v : tail) {
      x.order(v);
    }
    return x;
  }

  private static void promise10RunSpent() {
    due("10 steps", counting(11, end()).run(0, 0, 2), 38);
    LoopTells off = counting(12);
    due("10 forty steps, then beyond", off.run(0, 0, 2), 40);
    due("10 is not spent", off.run(0, 0, 3), 0);
    LoopTells spent = counting(12, end());
    due("10 forty steps, then at a place", spent.run(0, 0, 2), 40);
    due("10 is spent", spent.run(0, 0, 3), 1);
    due("10 and seen so", spent.seen(0, 0, spent.run(0, 0, 4) - 2, 2), 81);
    LoopTells last = with(load(3, 1), number(2, 12), branch(2, 5), add(2, 3), jump(2), end());
    last.word(0, -1);
    due("10 the fortieth ends it", last.run(0, 0, 2), 40);
    due("10 is not spent, either", last.run(0, 0, 3), 0);
    LoopTells round = with(add(0, 1), jump(0));
    due("10 the answer as it is spent", round.run(5, 0, 0), 21);
    due("10 its cost", round.run(5, 0, 1), 40);
  }

  private static void promise10RunWrong() {
    LoopTells x = with(end());
    for (int far : FAR) {
      due("10 open " + far, x.run(far, 0, 0), NO);
      due("10 secret " + far, x.run(0, far, 0), NO);
      due("10 what " + far, x.run(0, 0, far), NO);
    }
    due("10 what 5", x.run(0, 0, 5), NO);
    due("10 the last inputs", x.run(15, 15, 0), 3);
    due("10 two things", x.run(15, 15, 4), 2);
  }

  private static void promise11Seen() {
    LoopTells x = with(load(0, 3), branch(2, 3), store(0, 2), times(1, 3));
    x.watch(15, 2);
    int[][] want = {{0, 2, 1}, {1, 4, 0}, {2, 2, 0}, {-1, 1, 2 * 6}, {-1, 8, 0}};
    due("11 how many", x.run(0, 13, 4), want.length);
    for (int i = 0; i < want.length; i++) {
      for (int what = 0; what < 3; what++) {
        due("11 thing " + i + " " + what, x.seen(0, 13, i, what), want[i][what]);
      }
    }
    due("11 goes on at c", x.seen(0, 12, 1, 2), 1);
    due("11 a last one", x.seen(0, 13, 5, 0), NO);
    due("11 before the first", x.seen(0, 13, -1, 0), NO);
    for (int far : FAR) {
      due("11 open " + far, x.seen(far, 0, 0, 0), NO);
      due("11 secret " + far, x.seen(0, far, 0, 0), NO);
      due("11 thing " + far, x.seen(0, 0, far, 0), NO);
      due("11 what " + far, x.seen(0, 0, 0, far), NO);
    }
    due("11 what 3", x.seen(0, 0, 0, 3), NO);
    x.watch(10, 1);
    due("11 fewer eyes", x.run(0, 13, 4), 3);
    due("11 the answer behind the lines", x.seen(0, 13, 2, 1), 8);
    LoopTells lines = with(load(0, 0), jump(0));
    due("11 twenty lines, the cost, the answer", lines.run(0, 0, 4), 22);
    LoopTells all = with(branch(0, 0));
    due("11 forty branches, the cost, the answer", all.run(0, 0, 4), 42);
    due("11 the last thing", all.seen(0, 0, 41, 1), 8);
    due("11 the spent cost", all.seen(0, 0, 40, 2), 81);
  }

  private static void promise12And13Classes() {
    LoopTells x = with(times(2, 1), add(0, 2));
    x.watch(8, 1);
    due("12 times 0", x.classes(3), 1);
    due("12 times 1", x.classes(4), 4);
    due("13 of 0", x.classOf(4, 0), 0);
    due("13 of 3", x.classOf(4, 3), 3);
    due("13 of 15", x.classOf(4, 15), 3);
    due("13 all one", x.classOf(3, 15), 0);
    LoopTells back = with(load(0, 2));
    back.watch(8, 1);
    back.word(0, 9);
    back.word(1, 5);
    back.word(2, 9);
    back.word(3, 1);
    due("12 three answers", back.classes(15), 3);
    int[] want = {0, 1, 0, 2};
    for (int secret = 0; secret < 16; secret++) {
      due("13 by the least secret " + secret, back.classOf(0, secret), want[secret % 4]);
    }
    LoopTells sixteen = with(add(3, 3), add(3, 3), add(2, 3), number(0, 0), add(0, 2));
    due("12 all sixteen", sixteen.classes(0), 16);
    due("13 the sixteenth", sixteen.classOf(0, 15), 15);
    for (int far : FAR) {
      due("12 open " + far, x.classes(far), -1);
      due("13 open " + far, x.classOf(far, 0), -1);
      due("13 secret " + far, x.classOf(0, far), -1);
    }
  }

  private static void promise14And15Most() {
    LoopTells x = with(branch(1, 2), add(0, 2));
    due("14 the most", x.most(), 4);
    due("14 not of all", x.classes(0), 1);
    due("15 one open input tells", x.silent(), false);
    x.change(1, add(0, 1));
    due("14 one", x.most(), 1);
    due("15 open inputs may tell", x.silent(), true);
    LoopTells places = sameLineElsewhere();
    due("15 places are not seen", places.silent(), true);
    places.even(1, true);
    due("15 but whether a line is", places.silent(), false);
    places.even(3, true);
    due("15 nor if both are even", places.silent(), true);
  }

  private static void promise16Pair() {
    LoopTells longer = with(branch(2, 2), load(0, 3));
    longer.watch(2, 1);
    pairIs("16 the other row is longer", longer, 0, 1, 0, 1, 2);
    longer.watch(3, 1);
    pairIs("16 the cost against a line", longer, 0, 1, 0, -1, 1);
    longer.watch(4, 1);
    pairIs("16 a branch", longer, 0, 1, 0, 0, 4);

    LoopTells shorter = with(branch(2, 3), load(0, 1), end(), load(0, 1), load(0, 1));
    shorter.watch(2, 1);
    pairIs("16 secret 0's row is longer", shorter, 0, 1, 1, 4, 2);

    LoopTells later = with(branch(1, 3), load(0, 1), load(0, 3));
    later.watch(2, 2);
    pairIs("16 a later open input and secret", later, 4, 8, 1, 2, 2);

    LoopTells cost = with(load(0, 1), times(1, 2));
    pairIs("16 the cost", cost, 0, 1, 1, -1, 1);
    LoopTells answer = with(load(0, 1), add(0, 3));
    pairIs("16 the answer", answer, 0, 4, 2, -1, 8);
    LoopTells spent = with(branch(2, 0), end());
    spent.watch(1, 1);
    pairIs("16 being spent", spent, 0, 1, 0, -1, 1);

    for (int far : FAR) {
      due("16 what " + far, answer.pair(far), NO);
    }
    due("16 what 5", answer.pair(5), NO);
    answer.watch(7, 1);
    pairIs("16 silent", answer, NO, NO, NO, NO, NO);
  }

  private static void promise17Cure() {
    cureIs("17 no places", new LoopTells(), 0, 0, 1);
    cureIs("17 the answer does not count", with(add(0, 2)), 0, 0, 2);
    LoopTells none = with(branch(2, 2), end());
    none.watch(1, 1);
    cureIs("17 steps that can't be made even", none, -1, -1, -1);

    LoopTells x = twoWays();
    cureIs("17 the cheapest", x, 1, 64, 24);
    x.price(6, 2);
    cureIs("17 then the fewest places", x, 2, 64, 24);
    x.price(6, 3);
    cureIs("17 cheaper by two", x, 2, 6, 24);
    x.price(6, 0);
    x.price(0, 0);
    cureIs("17 price 0", x, 0, 64, 24);
    x.even(1, true);
    cureIs("17 even places do not count", x, 0, 64, 24);
    x.watch(11, 1);
    cureIs("17 lines, too", x, 2, 64 + 32 + 8 + 1, 3);
    x.watch(8, 1);
    cureIs("17 no eye is left", x, 0, 0, 128);

    LoopTells least = with(branch(2, 4), load(0, 1), load(0, 1), end(), load(0, 1));
    least.watch(2, 1);
    cureIs("17 then the least number", least, 1, 2, 12);
    least.price(1, 99);
    least.price(2, 98);
    cureIs("17 dear places", least, 98, 4, 12);
    cureIs("17 sets may be worse than none", sameLineElsewhere(), 0, 0, 8);
    for (int far : FAR) {
      due("17 what " + far, x.cure(far), -1);
    }
    due("17 what 3", x.cure(3), -1);
  }

  private static void promise18Reached() {
    due("18 none", new LoopTells().reached(), 0);
    due("18 behind an end", with(end(), end()).reached(), 1);
    due("18 over a jump", with(jump(2), end(), end()).reached(), 5);
    due("18 by some run", with(branch(2, 2), end(), end()).reached(), 7);
    due("18 by no run", with(number(2, 0), branch(2, 3), end(), end()).reached(), 11);
    due("18 all eight", with(8192, 8192, 8192, 8192, 8192, 8192, 8192, 0).reached(), 255);
    due("18 an end's c is not gone to", with(order(0, 1, 1, 2), end(), end()).reached(), 1);
    LoopTells x = with(end(), end());
    due("18 before", x.reached(), 1);
    x.change(0, jump(1));
    due("18 after", x.reached(), 3);
    // "It is at a PLACE still": we take a place at which a run is spent as reached.
    due("18 where it is spent", counting(12, end()).reached(), 127);
    due("18 spent before", counting(13, end()).reached(), 63);
  }

  private static void promise19Tellers() {
    due("19 none", new LoopTells().tellers(), 0);
    due("19 the answer does not count", with(add(0, 2)).tellers(), 0);
    LoopTells x = with(times(1, 2), load(0, 3), add(0, 2), load(0, 0));
    due("19 cost and lines", x.tellers(), 11);
    x.watch(1, 1);
    due("19 cost alone", x.tellers(), 1);
    x.watch(2, 1);
    due("19 lines alone", x.tellers(), 10);
    x.even(1, true);
    due("19 even places do not count", x.tellers(), 10);
    x.watch(12, 1);
    due("19 no branch", x.tellers(), 0);
    due("19 places that tell only with others not even", sameLineElsewhere().tellers(), 10);
    LoopTells steps = with(branch(2, 2), end());
    steps.watch(1, 1);
    due("19 steps tell, whatever is even", steps.tellers(), 3);
  }

  public static void main(String[] args) {
    promise1NewObject();
    promise2Order();
    promise3Change();
    promise4Clear();
    promise5Word();
    promise6Watch();
    promise7Even();
    promise8Price();
    promise9Look();
    promise10RunKinds();
    promise10RunCosts();
    promise10RunSpent();
    promise10RunWrong();
    promise11Seen();
    promise12And13Classes();
    promise14And15Most();
    promise16Pair();
    promise17Cure();
    promise18Reached();
    promise19Tellers();
    due("the constant", LoopTells.NONE, -1);
    close();
  }
}
