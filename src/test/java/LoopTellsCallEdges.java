import java.util.Random;

/** The public face and promises 1 to 19: each sentence that names an edge or a refused call. */
public final class LoopTellsCallEdges extends Check {
  private static final int[] NO_ORDERS = {
    40960, 40961, 45056, 61440, 65535, 65536, 65536 + 4096, 1 << 20, 1 << 30, GREATEST, -1, -4096,
    LEAST, LEAST + 4096
  };
  private static final int[] ODD = {
    LEAST, LEAST + 1, -65536, -1001, -32, -16, -8, -2, -1, 0, 1, 2, 3, 4, 5, 7, 8, 9, 10, 15, 16, 17,
    18, 31, 32, 33, 37, 40, 50, 57, 58, 64, 99, 100, 255, 256, 40959, 40960, GREATEST - 1, GREATEST
  };

  private static final int[] BUSY_ORDERS = {
    load(0, 2), branch(3, 3), times(1, 2), store(1, 3), add(0, 1), number(1, 6), addIf(0, 3, 4), end()
  };
  private static final int[] BUSY_WORDS = {3, 1, 4, 1, 5, 9, 2, 6};

  /** A state in which all that can be told is otherwise than in a new object: place 2 is even. */
  private static LoopTells busy(int places) {
    LoopTells x = new LoopTells();
    for (int p = 0; p < places; p++) {
      x.order(BUSY_ORDERS[p]);
      x.price(p, 10 + p);
    }
    if (places > 2) {
      x.even(2, true);
    }
    return watched(words(x, BUSY_WORDS), 11, 2);
  }

  /** All that can be looked at, and some of what is answered from it: 57 calls. */
  private static long[] stateOf(LoopTells x) {
    long[] state = new long[57];
    int n = 0;
    for (int what = 0; what < 4; what++) {
      state[n++] = x.look(what);
    }
    for (int i = 0; i < 8; i++) {
      state[n++] = x.look(10 + i);
      state[n++] = x.look(30 + i);
      state[n++] = x.look(50 + i);
      state[n++] = x.seen(6, 9, i, 2);
    }
    for (int what = 0; what < 5; what++) {
      state[n++] = x.run(6, 9, what);
      state[n++] = x.pair(what);
      state[n++] = x.cure(what);
    }
    state[n++] = x.classes(6);
    state[n++] = x.classOf(6, 9);
    state[n++] = x.most();
    state[n++] = x.silent() ? 1 : 0;
    state[n++] = x.reached();
    state[n++] = x.tellers();
    return state;
  }

  private static void unchanged(String name, long[] before, LoopTells x) {
    long[] now = stateOf(x);
    for (int i = 0; i < now.length; i++) {
      due(name + ": state " + i, now[i], before[i]);
    }
  }

  private static void fiveHundredAndTwelveCalls() {
    says("An object is used for at most 512 calls after it has been made");
    LoopTells x = new LoopTells();
    for (int call = 0; call < 510; call += 2) {
      due("call " + call, x.order(load(0, 2)), call / 2 % 8);
      if (call / 2 % 8 == 7) {
        x.clear();
      } else {
        due("the call behind it", x.reached(), (1 << call / 2 % 8 + 1) - 1);
      }
    }
    due("call 511", x.most(), 4);
    due("call 512", x.tellers(), 127);
    LoopTells dear = with(load(1, 2), load(1, 3), load(1, 2), branch(3, 4), times(1, 3), times(1, 2));
    for (int i = 0; i < 253; i++) {
      dear.word(0, i);
      due("a cure after each change", dear.cure(1), 63);
    }
  }

  private static void none() {
    says("The constants: NONE = -1");
    due("NONE", LoopTells.NONE, -1);
  }

  private static void newObject() {
    says("LoopTells(): No PLACES, MEMORY 0, all EYES.");
    LoopTells used = busy(8);
    LoopTells x = new LoopTells();
    int[] want = {0, 15, 1, 0};
    for (int what = 0; what < 4; what++) {
      due("look " + what, x.look(what), want[what]);
    }
    for (int i = 0; i < 8; i++) {
      due("no order", x.look(10 + i), NO);
      due("no price", x.look(30 + i), NO);
      due("word", x.look(50 + i), 0);
    }
    due("what another object has is its own", used.look(0), 8);
  }

  private static void orderBehindOthers() {
    says("order: An ORDER comes behind the others: its PLACE.");
    LoopTells x = new LoopTells();
    for (int p = 0; p < 8; p++) {
      due("its place", x.order(number(0, p)), p);
      for (int q = 0; q <= p; q++) {
        due("order " + q, x.look(10 + q), number(0, q));
      }
      due("none behind", x.look(11 + p), NO);
      due("its price", x.look(30 + p), 1);
      due("it is not even", x.look(3), 0);
    }
  }

  private static void orderRefused() {
    says("order: NONE, and nothing is done: it has another KIND, bits above, or there are 8.");
    for (int places = 0; places <= 8; places += 4) {
      for (int v : NO_ORDERS) {
        LoopTells x = busy(places);
        long[] before = stateOf(x);
        due("order " + v, x.order(v), -1);
        unchanged("order " + v, before, x);
      }
    }
    for (int bit = 16; bit < 32; bit++) {
      due("bit " + bit + " above", new LoopTells().order(1 << bit | number(0, 1)), -1);
    }
    LoopTells full = busy(8);
    long[] before = stateOf(full);
    for (int v : new int[] {0, number(0, 1), 40959}) {
      due("a ninth", full.order(v), -1);
    }
    unchanged("a ninth", before, full);
    due("seven have room", busy(7).order(40959), 7);
  }

  private static void changeRefused() {
    says("change: PLACE p has another ORDER: true; false, and nothing is done, if one can't be.");
    for (int places = 0; places <= 8; places++) {
      for (int p : ODD) {
        LoopTells x = busy(places);
        long[] before = stateOf(x);
        boolean there = p >= 0 && p < places;
        due("change to kind 10", x.change(p, 40960), false);
        due("change to -1", x.change(p, -1), false);
        unchanged("change of " + p, before, x);
        due("change of " + p, x.change(p, number(3, 13)), there);
        if (there) {
          due("the order", x.look(10 + p), number(3, 13));
          due("the price stays", x.look(30 + p), before[4 + 4 * p + 1]);
        } else {
          unchanged("change of " + p, before, x);
        }
      }
    }
    for (int v : NO_ORDERS) {
      LoopTells x = busy(8);
      long[] before = stateOf(x);
      due("to " + v, x.change(0, v) || x.change(7, v) || x.change(8, v), false);
      unchanged("to " + v, before, x);
    }
    due("to the order that it has", with(number(0, 4)).change(0, number(0, 4)), true);
  }

  private static void clearAll() {
    says("clear: No PLACES any more (none EVEN, PRICES 1).");
    for (int places = 0; places <= 8; places++) {
      LoopTells x = busy(places);
      for (int p = 0; p < places; p++) {
        x.even(p, true);
        x.price(p, 99);
      }
      stateOf(x);
      x.clear();
      unchanged("as without places", stateOf(busy(0)), x);
      for (int p = 0; p < 8; p++) {
        due("place again", x.order(times(0, 2)), p);
        due("price again", x.look(30 + p), 1);
      }
      due("none even", x.look(3), 0);
      due("a ninth again", x.order(0), -1);
    }
  }

  private static void wordRefused() {
    says("word: MEMORY word i is v (as runs begin): true; false if there is none such.");
    for (int i : ODD) {
      LoopTells x = busy(8);
      long[] before = stateOf(x);
      due("word " + i, x.word(i, -1001), i >= 0 && i < 8);
      if (i >= 0 && i < 8) {
        due("is that", x.look(50 + i), -1001);
      } else {
        unchanged("word " + i, before, x);
      }
    }
    LoopTells fresh = watched(with(load(0, 2), branch(0, 3), end(), load(1, 2)), 2, 1);
    fresh.even(0, true);
    due("all words are 0: reached", fresh.reached(), 11);
    due("most", fresh.most(), 4);
    due("tellers", fresh.tellers(), 9);
    due("the run", fresh.run(0, 1, 2), 3);
    for (int i = 0; i < 4; i++) {
      fresh.word(i, 1);
    }
    due("no word is 0: reached", fresh.reached(), 7);
    due("most now", fresh.most(), 1);
    due("tellers now", fresh.tellers(), 1);
    due("the run ends otherwise", fresh.seen(0, 1, 0, 2), NO);
    LoopTells y = new LoopTells();
    for (int v : ODD) {
      due("any number", y.word(7, v), true);
      due("stays", y.look(57), v);
    }
  }

  private static void watchRefused() {
    says("watch: THE WATCHER has EYES and sees LINES of a WIDTH: true; false, and nothing is done");
    for (int width : ODD) {
      boolean can = width == 1 || width == 2 || width == 4 || width == 8;
      for (int eyes : ODD) {
        LoopTells x = busy(4);
        long[] before = stateOf(x);
        boolean both = can && eyes >= 0 && eyes < 16;
        due("eyes " + eyes + " width " + width, x.watch(eyes, width), both);
        if (both) {
          due("the eyes", x.look(1), eyes);
          due("the width", x.look(2), width);
        } else {
          unchanged("eyes " + eyes + " width " + width, before, x);
        }
      }
    }
    for (int width : new int[] {0, 3, 5, 6, 7, 9, 16}) {
      due("width " + width, new LoopTells().watch(1, width), false);
    }
  }

  private static void evenRefused() {
    says("even: PLACE p is EVEN, or not: true; false, and nothing is done: none such, or it was so.");
    for (int places = 0; places <= 8; places += 4) {
      for (int p : ODD) {
        LoopTells x = busy(places);
        boolean there = p >= 0 && p < places;
        boolean was = there && p == 2;
        long[] before = stateOf(x);
        due("as it was", x.even(p, was), false);
        unchanged("as it was", before, x);
        due("otherwise", x.even(p, !was), there);
        due("the set", x.look(3), before[3] ^ (there ? 1 << p : 0));
        due("again", x.even(p, !was), false);
        due("back", x.even(p, was), there);
        unchanged("back", before, x);
      }
    }
    LoopTells all = busy(8);
    for (int p = 0; p < 8; p++) {
      due("all", all.even(p, true), p != 2);
    }
    due("the whole set", all.look(3), 255);
  }

  private static void priceRefused() {
    says("price: PLACE p has a PRICE: true; false, and nothing is done, if one can't be.");
    for (int p : ODD) {
      for (int v : ODD) {
        LoopTells x = busy(4);
        long[] before = stateOf(x);
        boolean can = p >= 0 && p < 4 && v >= 0 && v < 100;
        due("price " + v + " of " + p, x.price(p, v), can);
        if (can) {
          due("is that", x.look(30 + p), v);
        } else {
          unchanged("price " + v + " of " + p, before, x);
        }
      }
    }
    LoopTells cure = watched(with(load(0, 2)), 2, 1);
    due("a cure at 1", cure.cure(0), 1);
    cure.price(0, 99);
    due("a cure at 99", cure.cure(0), 99);
    cure.price(0, 0);
    due("a cure at 0", cure.cure(0), 0);
  }

  private static int lookDue(int places, int what) {
    int[] first = {places, 11, 2, places > 2 ? 4 : 0};
    if (what >= 0 && what < 4) {
      return first[what];
    }
    if (what >= 10 && what < 10 + places) {
      return BUSY_ORDERS[what - 10];
    }
    if (what >= 30 && what < 30 + places) {
      return 10 + what - 30;
    }
    return what >= 50 && what < 58 ? BUSY_WORDS[what - 50] : NO;
  }

  private static void lookAtNoneSuch() {
    says("look: NONE - 1000 if there is none such. (A word may be that, too.)");
    for (int places = 0; places <= 8; places++) {
      LoopTells x = busy(places);
      for (int what = -60; what < 120; what++) {
        due("look " + what, x.look(what), lookDue(places, what));
      }
      for (int what : ODD) {
        due("look " + what, x.look(what), lookDue(places, what));
      }
      due("a word is that", x.word(0, -1001), true);
      due("a word may be that", x.look(50), NO);
    }
  }

  private static void runRefused() {
    says("run: NONE - 1000 if one can't be.");
    for (int places = 0; places <= 8; places += 8) {
      LoopTells x = busy(places);
      for (int odd : ODD) {
        boolean input = odd >= 0 && odd < 16;
        due("open " + odd, x.run(odd, 15, 3), input ? 0 : NO);
        due("secret " + odd, x.run(15, odd, 3), input ? 0 : NO);
        due("what " + odd, x.run(0, 0, odd) == NO, odd < 0 || odd > 4);
      }
      due("all wrong", x.run(16, -1, 5), NO);
    }
    due("an answer may be that", words(with(load(0, 1)), -1001).run(0, 0, 0), NO);
  }

  private static void seenNoneSuch() {
    says("seen: NONE - 1000 if there is none such, or another what.");
    for (int eyes = 0; eyes < 16; eyes++) {
      LoopTells x = watched(busy(8), eyes, 1);
      int length = x.run(6, 9, 4);
      for (int odd : ODD) {
        due("thing " + odd, x.seen(6, 9, odd, 1) == NO, odd < 0 || odd >= length);
        due("what " + odd, x.seen(6, 9, 0, odd) == NO, length == 0 || odd < 0 || odd > 2);
        due("open " + odd, x.seen(odd, 9, 0, 1) == NO, length == 0 || odd < 0 || odd > 15);
        due("secret " + odd, x.seen(6, odd, 0, 1) == NO, length == 0 || odd < 0 || odd > 15);
      }
      due("the one behind the last", x.seen(6, 9, length, 1), NO);
    }
    LoopTells none = watched(new LoopTells(), 6, 1);
    due("no things", none.run(0, 0, 4), 0);
    due("no first thing", none.seen(0, 0, 0, 0), NO);
  }

  private static void seenAtTheEnd() {
    says("seen: what 0 its STEP's PLACE (-1 at the end)");
    LoopTells x = with(end(), end(), end(), end(), end(), end(), end(), load(0, 1));
    x.change(0, jump(7));
    rowIs("place 7", x, 5, 0, new int[] {7, 2, 1}, new int[] {-1, 1, 4}, new int[] {-1, 8, 0});
    says("seen: a branch: 1 if it goes on at c, else 0; the COST: twice it, and 1 if it is SPENT");
    LoopTells y = watched(with(branch(0, 0)), 5, 1);
    due("it goes", y.seen(0, 0, 0, 2), 1);
    due("it does not", y.seen(1, 0, 0, 2), 0);
    due("spent", y.seen(0, 0, 40, 2), 81);
    due("not spent", y.seen(1, 0, 1, 2), 2);
  }

  private static void classesOfNoneSuch() {
    says("classes: NONE if there is none such. classOf: NONE likewise.");
    for (int places = 0; places <= 8; places += 8) {
      LoopTells x = busy(places);
      for (int odd : ODD) {
        boolean input = odd >= 0 && odd < 16;
        due("classes of " + odd, x.classes(odd) == -1, !input);
        due("open " + odd, x.classOf(odd, 15) == -1, !input);
        due("secret " + odd, x.classOf(15, odd) == -1, !input);
        due("both " + odd, x.classOf(odd, odd) == -1, !input);
      }
    }
  }

  private static void classesByLeastSecrets() {
    says("classOf: CLASSES numbered by their least SECRETS");
    for (int odd = 0; odd < 16; odd++) {
      LoopTells x = tellsSecret(odd);
      for (int secret = 0; secret < 16; secret++) {
        int want = odd == 0 ? (secret == 0 ? 0 : 1) : secret == odd ? 1 : 0;
        due("class of " + secret, x.classOf(15, secret), want);
      }
    }
    LoopTells down = watched(words(with(load(0, 3)), 4, 3, 2, 1), 8, 1);
    due("not by their numbers", down.classOf(0, 4), 1);
    due("the last", down.classOf(0, 15), 3);
  }

  private static void mostOfAll() {
    says("most: The most CLASSES that an OPEN input has.");
    due("one, without places", new LoopTells().most(), 1);
    due("one, without eyes", watched(busy(8), 0, 1).most(), 1);
    due("of the first", tellsAtOpen(0).most(), 4);
    due("of the last", tellsAtOpen(15).most(), 4);
    due("sixteen", with(add(3, 3), add(3, 3), xor(0, 2), xor(0, 3)).most(), 16);
  }

  private static void silentOrNot() {
    says("silent: Whether the PROGRAM is SILENT.");
    due("without places", new LoopTells().silent(), true);
    due("told for open 15 alone", tellsAtOpen(15).silent(), false);
    due("told of secret 15 alone", tellsSecret(15).silent(), false);
    LoopTells x = watched(with(load(1, 2)), 2, 4);
    due("within a line", x.silent(), true);
    x.watch(2, 2);
    due("in two lines", x.silent(), false);
    x.even(0, true);
    due("a hidden line", x.silent(), true);
  }

  private static void pairRefused() {
    says("pair: NONE - 1000: it is SILENT, or another what.");
    LoopTells told = tellsSecret(15);
    LoopTells calm = with(add(0, 1));
    for (int odd : ODD) {
      due("what " + odd, told.pair(odd) == NO, odd < 0 || odd > 4);
      due("silent, what " + odd, calm.pair(odd), NO);
    }
  }

  private static void pairOfRowsOfOtherLengths() {
    says("pair: 3 its PLACE (that of SECRET 0's run; if that has no such thing, of the other's), 4 likewise");
    LoopTells other = watched(with(branch(2, 2), load(0, 3)), 2, 1);
    pairIs("secret 0 sees nothing", other, 0, 1, 0, 1, 2);
    other.watch(6, 1);
    other.even(0, true);
    other.change(1, branch(3, 2));
    pairIs("the other sees a branch", other, 0, 1, 0, 1, 4);
    LoopTells own = watched(with(branch(2, 2), end(), load(0, 3)), 2, 1);
    pairIs("the other sees nothing", own, 0, 1, 0, 2, 2);
    LoopTells both = watched(with(branch(2, 3), load(0, 1), end(), branch(2, 4)), 6, 1);
    both.even(0, true);
    pairIs("both see, secret 0 a branch", both, 0, 1, 0, 3, 4);
    both.watch(7, 1);
    both.even(3, true);
    pairIs("secret 0 is at its end", both, 0, 1, 0, -1, 1);
    both.watch(10, 1);
    pairIs("the end is the answer", both, 0, 1, 0, -1, 8);
  }

  private static void cureRefused() {
    says("cure: NONE if there is none, or another what.");
    LoopTells some = with(load(0, 2));
    LoopTells none = watched(with(branch(2, 2), end()), 1, 1);
    for (int odd : ODD) {
      due("what " + odd, some.cure(odd) == -1, odd < 0 || odd > 2);
      due("none, what " + odd, none.cure(odd), -1);
    }
  }

  private static void reachedByAny() {
    says("reached: The PLACES that are reached by some run whose OPEN and SECRET inputs are any, as a set.");
    due("no places", new LoopTells().reached(), 0);
    due("one", with(end()).reached(), 1);
    LoopTells x = new LoopTells();
    for (int p = 0; p < 8; p++) {
      x.order(add(0, 1));
      due("all of " + p, x.reached(), (2 << p) - 1);
    }
    for (int open = 0; open < 16; open++) {
      due("by open " + open, reachedFor(tellsAtOpen(open)).reached(), 255);
    }
    for (int secret = 0; secret < 16; secret++) {
      LoopTells y = tellsSecret(secret);
      y.change(5, branch(2, 15));
      due("by secret " + secret, y.reached(), 127);
    }
    LoopTells never = with(number(0, 0), branch(0, 3), end(), end());
    due("by no run", never.reached(), 11);
    never.even(1, true);
    never.watch(0, 8);
    due("whatever is seen", never.reached(), 11);
  }

  /** Place 7 is come to for one open input alone, and a secret of which register 2 is not 0. */
  private static LoopTells reachedFor(LoopTells x) {
    x.order(branch(0, 15));
    x.order(end());
    return x;
  }

  private static void tellersByThemselves() {
    says("tellers: PLACES that tell by themselves: at which, all others being EVEN, it is not SILENT");
    due("no places", new LoopTells().tellers(), 0);
    LoopTells all = new LoopTells();
    for (int p = 0; p < 8; p++) {
      all.order(store(0, 2));
      due("all of " + p, all.tellers(), (2 << p) - 1);
    }
    all.watch(8, 1);
    due("not for eye 8", all.tellers(), 0);
    all.watch(2, 4);
    due("not within a line", all.tellers(), 0);
    due("not by the answer", with(add(0, 2)).tellers(), 0);
    due("but by what others hide", sameLineElsewhere().tellers(), 10);
    due("all, if steps tell", watched(with(branch(2, 3), end(), end()), 1, 1).tellers(), 7);
    LoopTells hidden = watched(with(load(0, 2), load(0, 1)), 2, 1);
    hidden.even(0, true);
    due("whatever is even now", hidden.tellers(), 1);
    for (int input = 0; input < 16; input++) {
      due("told for open " + input + " alone", lineAtOpen(input).tellers(), 64);
      LoopTells secret = watched(tellsSecret(input), 2, 1);
      secret.change(6, load(0, 2));
      due("told of secret " + input + " alone", secret.tellers(), 1 + 8 + 64);
    }
  }

  private static int odd(Random random) {
    return ODD[random.nextInt(ODD.length)];
  }

  private static void callAnything(LoopTells x, Random random) {
    switch (random.nextInt(18)) {
      case 0 -> x.order(odd(random));
      case 1 -> x.order(random.nextInt(41000));
      case 2 -> x.change(odd(random), random.nextInt(41000));
      case 3 -> x.word(odd(random), odd(random));
      case 4 -> x.watch(odd(random), odd(random));
      case 5 -> x.even(odd(random), random.nextBoolean());
      case 6 -> x.price(odd(random), odd(random));
      case 7 -> x.look(odd(random));
      case 8 -> x.run(odd(random), odd(random), odd(random));
      case 9 -> x.seen(odd(random), odd(random), odd(random), odd(random));
      case 10 -> x.classes(odd(random));
      case 11 -> x.classOf(odd(random), odd(random));
      case 12 -> due("most of all", x.most() >= 1 && x.most() <= 16, true);
      case 13 -> due("silent and pair", x.pair(0) == NO, x.silent());
      case 14 -> x.pair(odd(random));
      case 15 -> x.cure(odd(random));
      case 16 -> due("reached of those there are", x.reached() >> x.look(0), 0);
      default -> due("tellers of those there are", x.tellers() >> x.look(0), 0);
    }
  }

  private static void neverThrows() {
    says("No call may ever throw or fail to end, for any arguments in any state");
    for (int seed = 0; seed < 400; seed++) {
      Random random = new Random(seed);
      LoopTells x = busy(random.nextInt(9));
      for (int call = 0; call < 240; call++) {
        callAnything(x, random);
      }
    }
  }

  public static void main(String[] args) {
    fiveHundredAndTwelveCalls();
    none();
    newObject();
    orderBehindOthers();
    orderRefused();
    changeRefused();
    clearAll();
    wordRefused();
    watchRefused();
    evenRefused();
    priceRefused();
    lookAtNoneSuch();
    runRefused();
    seenNoneSuch();
    seenAtTheEnd();
    classesOfNoneSuch();
    classesByLeastSecrets();
    mostOfAll();
    silentOrNot();
    pairRefused();
    pairOfRowsOfOtherLengths();
    cureRefused();
    reachedByAny();
    tellersByThemselves();
    neverThrows();
    close();
  }
}
